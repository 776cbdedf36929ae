/-- the words of the tables that stay -/
def ALL : List Cond := lw_tbl.filter goodWord
theorem mem_t {w : Cond} (h : w ∈ tables_1) (hg : goodWord w = true) : w ∈ ALL := List.mem_filter.mpr ⟨List.mem_append_right _ h, hg⟩
theorem mem_s {q : MethodName × Nat} (h : q ∈ lw_privs) (hg : goodWord (Cond.selects q.1.cls q.1 q.1) = true) : Cond.selects q.1.cls q.1 q.1 ∈ ALL := List.mem_filter.mpr ⟨List.mem_append_left _ (List.mem_map.mpr ⟨q, h, rfl⟩), hg⟩
theorem ALL_ok {w : Cond} (h : w ∈ ALL) : w ∈ lw_tbl ∧ goodWord w = true := List.mem_filter.mp h
theorem in_tables : tables_1 = tables_1_1 ++ (tables_1_2 ++ (tables_1_3 ++ (tables_1_4 ++ (tables_1_5 ++ (tables_1_6 ++ tables_1_7))))) := rfl
theorem mr0 {w : Cond} (h : w ∈ tables_1_1) (hg : goodWord w = true) : w ∈ ALL := mem_t (by unfold tables_1; simp only [List.mem_append]; simp only [h, true_or, or_true]) hg
theorem mr1 {w : Cond} (h : w ∈ tables_1_2) (hg : goodWord w = true) : w ∈ ALL := mem_t (by unfold tables_1; simp only [List.mem_append]; simp only [h, true_or, or_true]) hg
theorem mr2 {w : Cond} (h : w ∈ tables_1_3) (hg : goodWord w = true) : w ∈ ALL := mem_t (by unfold tables_1; simp only [List.mem_append]; simp only [h, true_or, or_true]) hg
theorem mr3 {w : Cond} (h : w ∈ tables_1_4) (hg : goodWord w = true) : w ∈ ALL := mem_t (by unfold tables_1; simp only [List.mem_append]; simp only [h, true_or, or_true]) hg
theorem mr4 {w : Cond} (h : w ∈ tables_1_5) (hg : goodWord w = true) : w ∈ ALL := mem_t (by unfold tables_1; simp only [List.mem_append]; simp only [h, true_or, or_true]) hg
theorem mr5 {w : Cond} (h : w ∈ tables_1_6) (hg : goodWord w = true) : w ∈ ALL := mem_t (by unfold tables_1; simp only [List.mem_append]; simp only [h, true_or, or_true]) hg
theorem mr6 {w : Cond} (h : w ∈ tables_1_7) (hg : goodWord w = true) : w ∈ ALL := mem_t (by unfold tables_1; simp only [List.mem_append]; simp only [h, true_or, or_true]) hg
theorem q0 : Cond.selects "ControlText$Names" yX1_addWords yX1_addWords ∈ ALL := mem_s (q := (⟨"ControlText$Names", "addWords", "(Ljava/lang/String;)V"⟩, 6)) (mp0 (List.mem_of_getElem? (i := 0) (a := ((⟨"ControlText$Names", "addWords", "(Ljava/lang/String;)V"⟩, 6), 42, 49, 50)) rfl)) rfl
theorem q1 : Cond.selects "ControlText$Names" yX1_firstSlot yX1_firstSlot ∈ ALL := mem_s (q := (⟨"ControlText$Names", "firstSlot", "()I"⟩, 6)) (mp0 (List.mem_of_getElem? (i := 1) (a := ((⟨"ControlText$Names", "firstSlot", "()I"⟩, 6), 42, 105, 106)) rfl)) rfl
theorem q2 : Cond.selects "ControlText$Names" yX1_startOf yX1_startOf ∈ ALL := mem_s (q := (⟨"ControlText$Names", "startOf", "(I)I"⟩, 6)) (mp0 (List.mem_of_getElem? (i := 2) (a := ((⟨"ControlText$Names", "startOf", "(I)I"⟩, 6), 42, 109, 110)) rfl)) rfl
theorem q3 : Cond.selects "ControlText$Names" yX1_keep yX1_keep ∈ ALL := mem_s (q := (⟨"ControlText$Names", "keep", "(I)I"⟩, 6)) (mp0 (List.mem_of_getElem? (i := 3) (a := ((⟨"ControlText$Names", "keep", "(I)I"⟩, 6), 42, 113, 114)) rfl)) rfl
theorem q4 : Cond.selects "ControlText$Names" yX1_isAddedLast yX1_isAddedLast ∈ ALL := mem_s (q := (⟨"ControlText$Names", "isAddedLast", "(I)Z"⟩, 6)) (mp0 (List.mem_of_getElem? (i := 4) (a := ((⟨"ControlText$Names", "isAddedLast", "(I)Z"⟩, 6), 42, 117, 118)) rfl)) rfl
theorem q5 : Cond.selects "ControlText" yX6_feedNumber yX6_feedNumber ∈ ALL := mem_s (q := (⟨"ControlText", "feedNumber", "(I)V"⟩, 7)) (mp0 (List.mem_of_getElem? (i := 5) (a := ((⟨"ControlText", "feedNumber", "(I)V"⟩, 7), 17, 315, 316)) rfl)) rfl
theorem q6 : Cond.selects "ControlText$Tokens" yX2_scanToken yX2_scanToken ∈ ALL := mem_s (q := (⟨"ControlText$Tokens", "scanToken", "()V"⟩, 7)) (mp0 (List.mem_of_getElem? (i := 6) (a := ((⟨"ControlText$Tokens", "scanToken", "()V"⟩, 7), 154, 351, 352)) rfl)) rfl
theorem q7 : Cond.selects "ControlText$Tokens" yX2_skipBlanks yX2_skipBlanks ∈ ALL := mem_s (q := (⟨"ControlText$Tokens", "skipBlanks", "()Z"⟩, 7)) (mp0 (List.mem_of_getElem? (i := 7) (a := ((⟨"ControlText$Tokens", "skipBlanks", "()Z"⟩, 7), 154, 355, 356)) rfl)) rfl
theorem q8 : Cond.selects "ControlText$Tokens" yX2_endOfComment yX2_endOfComment ∈ ALL := mem_s (q := (⟨"ControlText$Tokens", "endOfComment", "(I)I"⟩, 7)) (mp0 (List.mem_of_getElem? (i := 8) (a := ((⟨"ControlText$Tokens", "endOfComment", "(I)I"⟩, 7), 154, 360, 361)) rfl)) rfl
theorem q9 : Cond.selects "ControlText$Tokens" yX2_add yX2_add ∈ ALL := mem_s (q := (⟨"ControlText$Tokens", "add", "(III)V"⟩, 7)) (mp0 (List.mem_of_getElem? (i := 9) (a := ((⟨"ControlText$Tokens", "add", "(III)V"⟩, 7), 154, 364, 365)) rfl)) rfl
theorem q10 : Cond.selects "ControlText$Tokens" yX2_scanTime yX2_scanTime ∈ ALL := mem_s (q := (⟨"ControlText$Tokens", "scanTime", "()V"⟩, 7)) (mp0 (List.mem_of_getElem? (i := 10) (a := ((⟨"ControlText$Tokens", "scanTime", "()V"⟩, 7), 154, 369, 370)) rfl)) rfl
theorem q11 : Cond.selects "ControlText$Tokens" yX2_digits yX2_digits ∈ ALL := mem_s (q := (⟨"ControlText$Tokens", "digits", "(I)J"⟩, 7)) (mp0 (List.mem_of_getElem? (i := 11) (a := ((⟨"ControlText$Tokens", "digits", "(I)J"⟩, 7), 154, 373, 374)) rfl)) rfl
theorem q12 : Cond.selects "ControlText$Tokens" yX2_unit yX2_unit ∈ ALL := mem_s (q := (⟨"ControlText$Tokens", "unit", "()J"⟩, 7)) (mp0 (List.mem_of_getElem? (i := 12) (a := ((⟨"ControlText$Tokens", "unit", "()J"⟩, 7), 154, 388, 389)) rfl)) rfl
theorem q13 : Cond.selects "ControlText$Tokens" yX2_addNumber yX2_addNumber ∈ ALL := mem_s (q := (⟨"ControlText$Tokens", "addNumber", "(IJ)V"⟩, 7)) (mp0 (List.mem_of_getElem? (i := 13) (a := ((⟨"ControlText$Tokens", "addNumber", "(IJ)V"⟩, 7), 154, 395, 396)) rfl)) rfl
theorem q14 : Cond.selects "ControlText$Tokens" yX2_scanNumber yX2_scanNumber ∈ ALL := mem_s (q := (⟨"ControlText$Tokens", "scanNumber", "()V"⟩, 7)) (mp0 (List.mem_of_getElem? (i := 14) (a := ((⟨"ControlText$Tokens", "scanNumber", "()V"⟩, 7), 154, 403, 404)) rfl)) rfl
theorem q15 : Cond.selects "ControlText$Tokens" yX2_scanName yX2_scanName ∈ ALL := mem_s (q := (⟨"ControlText$Tokens", "scanName", "()V"⟩, 7)) (mp0 (List.mem_of_getElem? (i := 15) (a := ((⟨"ControlText$Tokens", "scanName", "()V"⟩, 7), 154, 409, 410)) rfl)) rfl
theorem q16 : Cond.selects "ControlText$Tokens" yX2_scanPlace yX2_scanPlace ∈ ALL := mem_s (q := (⟨"ControlText$Tokens", "scanPlace", "()V"⟩, 7)) (mp0 (List.mem_of_getElem? (i := 16) (a := ((⟨"ControlText$Tokens", "scanPlace", "()V"⟩, 7), 154, 415, 416)) rfl)) rfl
theorem q17 : Cond.selects "ControlText$Tokens" yX2_scanSign yX2_scanSign ∈ ALL := mem_s (q := (⟨"ControlText$Tokens", "scanSign", "()V"⟩, 7)) (mp0 (List.mem_of_getElem? (i := 17) (a := ((⟨"ControlText$Tokens", "scanSign", "()V"⟩, 7), 154, 422, 423)) rfl)) rfl
theorem q18 : Cond.selects "ControlText$Parser" yX4_take yX4_take ∈ ALL := mem_s (q := (⟨"ControlText$Parser", "take", "(I)V"⟩, 12)) (mp0 (List.mem_of_getElem? (i := 18) (a := ((⟨"ControlText$Parser", "take", "(I)V"⟩, 12), 220, 443, 444)) rfl)) rfl
theorem q19 : Cond.selects "ControlText$Parser" yX4_startsBlock yX4_startsBlock ∈ ALL := mem_s (q := (⟨"ControlText$Parser", "startsBlock", "()Z"⟩, 12)) (mp0 (List.mem_of_getElem? (i := 19) (a := ((⟨"ControlText$Parser", "startsBlock", "()Z"⟩, 12), 220, 455, 456)) rfl)) rfl
theorem q20 : Cond.selects "ControlText$Parser" yX4_blockHead yX4_blockHead ∈ ALL := mem_s (q := (⟨"ControlText$Parser", "blockHead", "(I)I"⟩, 12)) (mp0 (List.mem_of_getElem? (i := 20) (a := ((⟨"ControlText$Parser", "blockHead", "(I)I"⟩, 12), 220, 459, 460)) rfl)) rfl
theorem q21 : Cond.selects "ControlText$Parser" yX4_takeName yX4_takeName ∈ ALL := mem_s (q := (⟨"ControlText$Parser", "takeName", "()I"⟩, 12)) (mp0 (List.mem_of_getElem? (i := 21) (a := ((⟨"ControlText$Parser", "takeName", "()I"⟩, 12), 220, 466, 467)) rfl)) rfl
theorem q22 : Cond.selects "ControlText$Parser" yX4_simpleType yX4_simpleType ∈ ALL := mem_s (q := (⟨"ControlText$Parser", "simpleType", "(I)V"⟩, 12)) (mp0 (List.mem_of_getElem? (i := 22) (a := ((⟨"ControlText$Parser", "simpleType", "(I)V"⟩, 12), 220, 470, 471)) rfl)) rfl
theorem q23 : Cond.selects "ControlText$Parser" yX4_sections yX4_sections ∈ ALL := mem_s (q := (⟨"ControlText$Parser", "sections", "(I)V"⟩, 12)) (mp0 (List.mem_of_getElem? (i := 23) (a := ((⟨"ControlText$Parser", "sections", "(I)V"⟩, 12), 220, 474, 475)) rfl)) rfl
theorem q24 : Cond.selects "ControlText$Parser" yX4_startsSection yX4_startsSection ∈ ALL := mem_s (q := (⟨"ControlText$Parser", "startsSection", "()Z"⟩, 12)) (mp0 (List.mem_of_getElem? (i := 24) (a := ((⟨"ControlText$Parser", "startsSection", "()Z"⟩, 12), 220, 478, 479)) rfl)) rfl
theorem q25 : Cond.selects "ControlText$Parser" yX4_declaration yX4_declaration ∈ ALL := mem_s (q := (⟨"ControlText$Parser", "declaration", "(I)V"⟩, 12)) (mp0 (List.mem_of_getElem? (i := 25) (a := ((⟨"ControlText$Parser", "declaration", "(I)V"⟩, 12), 220, 482, 483)) rfl)) rfl
theorem q26 : Cond.selects "ControlText$Parser" yX4_nameNode yX4_nameNode ∈ ALL := mem_s (q := (⟨"ControlText$Parser", "nameNode", "(I)V"⟩, 12)) (mp0 (List.mem_of_getElem? (i := 26) (a := ((⟨"ControlText$Parser", "nameNode", "(I)V"⟩, 12), 220, 486, 487)) rfl)) rfl
theorem q27 : Cond.selects "ControlText$Parser" yX4_type yX4_type ∈ ALL := mem_s (q := (⟨"ControlText$Parser", "type", "(I)V"⟩, 12)) (mp0 (List.mem_of_getElem? (i := 27) (a := ((⟨"ControlText$Parser", "type", "(I)V"⟩, 12), 220, 490, 491)) rfl)) rfl
theorem q28 : Cond.selects "ControlText$Parser" yX4_constant yX4_constant ∈ ALL := mem_s (q := (⟨"ControlText$Parser", "constant", "(I)V"⟩, 12)) (mp0 (List.mem_of_getElem? (i := 28) (a := ((⟨"ControlText$Parser", "constant", "(I)V"⟩, 12), 220, 494, 495)) rfl)) rfl
theorem q29 : Cond.selects "ControlText$Parser" yX4_literal yX4_literal ∈ ALL := mem_s (q := (⟨"ControlText$Parser", "literal", "(I)V"⟩, 12)) (mp0 (List.mem_of_getElem? (i := 29) (a := ((⟨"ControlText$Parser", "literal", "(I)V"⟩, 12), 220, 498, 499)) rfl)) rfl
theorem q30 : Cond.selects "ControlText$Parser" yX4_ladder yX4_ladder ∈ ALL := mem_s (q := (⟨"ControlText$Parser", "ladder", "(I)V"⟩, 12)) (mp0 (List.mem_of_getElem? (i := 30) (a := ((⟨"ControlText$Parser", "ladder", "(I)V"⟩, 12), 220, 502, 503)) rfl)) rfl
theorem q31 : Cond.selects "ControlText$Parser" yX4_row yX4_row ∈ ALL := mem_s (q := (⟨"ControlText$Parser", "row", "(I)V"⟩, 12)) (mp0 (List.mem_of_getElem? (i := 31) (a := ((⟨"ControlText$Parser", "row", "(I)V"⟩, 12), 220, 506, 507)) rfl)) rfl
theorem q32 : Cond.selects "ControlText$Parser" yX4_cell yX4_cell ∈ ALL := mem_s (q := (⟨"ControlText$Parser", "cell", "(I)V"⟩, 12)) (mp0 (List.mem_of_getElem? (i := 32) (a := ((⟨"ControlText$Parser", "cell", "(I)V"⟩, 12), 220, 510, 511)) rfl)) rfl
theorem q33 : Cond.selects "ControlText$Parser" yX4_coil yX4_coil ∈ ALL := mem_s (q := (⟨"ControlText$Parser", "coil", "(I)V"⟩, 12)) (mp0 (List.mem_of_getElem? (i := 33) (a := ((⟨"ControlText$Parser", "coil", "(I)V"⟩, 12), 220, 514, 515)) rfl)) rfl
theorem q34 : Cond.selects "ControlText$Parser" yX4_contact yX4_contact ∈ ALL := mem_s (q := (⟨"ControlText$Parser", "contact", "(I)V"⟩, 12)) (mp0 (List.mem_of_getElem? (i := 34) (a := ((⟨"ControlText$Parser", "contact", "(I)V"⟩, 12), 220, 521, 522)) rfl)) rfl
theorem q35 : Cond.selects "ControlText$Parser" yX4_startsCell yX4_startsCell ∈ ALL := mem_s (q := (⟨"ControlText$Parser", "startsCell", "()Z"⟩, 12)) (mp0 (List.mem_of_getElem? (i := 35) (a := ((⟨"ControlText$Parser", "startsCell", "()Z"⟩, 12), 220, 528, 529)) rfl)) rfl
theorem q36 : Cond.selects "ControlText$Parser" yX4_body yX4_body ∈ ALL := mem_s (q := (⟨"ControlText$Parser", "body", "(I)V"⟩, 12)) (mp0 (List.mem_of_getElem? (i := 36) (a := ((⟨"ControlText$Parser", "body", "(I)V"⟩, 12), 220, 532, 533)) rfl)) rfl
theorem q37 : Cond.selects "ControlText$Parser" yX4_statement yX4_statement ∈ ALL := mem_s (q := (⟨"ControlText$Parser", "statement", "(I)Z"⟩, 12)) (mp0 (List.mem_of_getElem? (i := 37) (a := ((⟨"ControlText$Parser", "statement", "(I)Z"⟩, 12), 220, 536, 537)) rfl)) rfl
theorem q38 : Cond.selects "ControlText$Parser" yX4_invocation yX4_invocation ∈ ALL := mem_s (q := (⟨"ControlText$Parser", "invocation", "(III)V"⟩, 12)) (mp0 (List.mem_of_getElem? (i := 38) (a := ((⟨"ControlText$Parser", "invocation", "(III)V"⟩, 12), 220, 540, 541)) rfl)) rfl
theorem q39 : Cond.selects "ControlText$Parser" yX4_takeOpening yX4_takeOpening ∈ ALL := mem_s (q := (⟨"ControlText$Parser", "takeOpening", "()V"⟩, 12)) (mp0 (List.mem_of_getElem? (i := 39) (a := ((⟨"ControlText$Parser", "takeOpening", "()V"⟩, 12), 220, 544, 545)) rfl)) rfl
theorem q40 : Cond.selects "ControlText$Parser" yX4_mayOpen yX4_mayOpen ∈ ALL := mem_s (q := (⟨"ControlText$Parser", "mayOpen", "()Z"⟩, 12)) (mp1 (List.mem_of_getElem? (i := 0) (a := ((⟨"ControlText$Parser", "mayOpen", "()Z"⟩, 12), 220, 548, 549)) rfl)) rfl
theorem q41 : Cond.selects "ControlText$Parser" yX4_outermostExpression yX4_outermostExpression ∈ ALL := mem_s (q := (⟨"ControlText$Parser", "outermostExpression", "(I)V"⟩, 12)) (mp1 (List.mem_of_getElem? (i := 1) (a := ((⟨"ControlText$Parser", "outermostExpression", "(I)V"⟩, 12), 220, 552, 553)) rfl)) rfl
theorem q42 : Cond.selects "ControlText$Parser" yX4_expression yX4_expression ∈ ALL := mem_s (q := (⟨"ControlText$Parser", "expression", "(II)V"⟩, 12)) (mp1 (List.mem_of_getElem? (i := 2) (a := ((⟨"ControlText$Parser", "expression", "(II)V"⟩, 12), 220, 556, 557)) rfl)) rfl
theorem q43 : Cond.selects "ControlText$Parser" yX4_operand yX4_operand ∈ ALL := mem_s (q := (⟨"ControlText$Parser", "operand", "(I)V"⟩, 12)) (mp1 (List.mem_of_getElem? (i := 3) (a := ((⟨"ControlText$Parser", "operand", "(I)V"⟩, 12), 220, 560, 561)) rfl)) rfl
theorem q44 : Cond.selects "ControlText$Parser" yX4_takeClosing yX4_takeClosing ∈ ALL := mem_s (q := (⟨"ControlText$Parser", "takeClosing", "(I)V"⟩, 12)) (mp1 (List.mem_of_getElem? (i := 4) (a := ((⟨"ControlText$Parser", "takeClosing", "(I)V"⟩, 12), 220, 564, 565)) rfl)) rfl
theorem q45 : Cond.selects "ControlText$Parser" yX4_operandByName yX4_operandByName ∈ ALL := mem_s (q := (⟨"ControlText$Parser", "operandByName", "(I)V"⟩, 12)) (mp1 (List.mem_of_getElem? (i := 5) (a := ((⟨"ControlText$Parser", "operandByName", "(I)V"⟩, 12), 220, 568, 569)) rfl)) rfl
theorem q46 : Cond.selects "ControlText$Parser" yX4_takeComma yX4_takeComma ∈ ALL := mem_s (q := (⟨"ControlText$Parser", "takeComma", "()Z"⟩, 12)) (mp1 (List.mem_of_getElem? (i := 6) (a := ((⟨"ControlText$Parser", "takeComma", "()Z"⟩, 12), 220, 572, 573)) rfl)) rfl
theorem q47 : Cond.selects "ControlText$Tree" yX3_has yX3_has ∈ ALL := mem_s (q := (⟨"ControlText$Tree", "has", "(I)Z"⟩, 8)) (mp1 (List.mem_of_getElem? (i := 7) (a := ((⟨"ControlText$Tree", "has", "(I)Z"⟩, 8), 186, 588, 589)) rfl)) rfl
theorem q48 : Cond.selects "ControlText$Parser" yX4_assignment yX4_assignment ∈ ALL := mem_s (q := (⟨"ControlText$Parser", "assignment", "(III)V"⟩, 12)) (mp1 (List.mem_of_getElem? (i := 8) (a := ((⟨"ControlText$Parser", "assignment", "(III)V"⟩, 12), 220, 595, 596)) rfl)) rfl
theorem q49 : Cond.selects "ControlText$Parser" yX4_ifStatement yX4_ifStatement ∈ ALL := mem_s (q := (⟨"ControlText$Parser", "ifStatement", "(I)V"⟩, 12)) (mp1 (List.mem_of_getElem? (i := 9) (a := ((⟨"ControlText$Parser", "ifStatement", "(I)V"⟩, 12), 220, 599, 600)) rfl)) rfl
theorem q50 : Cond.selects "ControlText$Parser" yX4_caseStatement yX4_caseStatement ∈ ALL := mem_s (q := (⟨"ControlText$Parser", "caseStatement", "(I)V"⟩, 12)) (mp1 (List.mem_of_getElem? (i := 10) (a := ((⟨"ControlText$Parser", "caseStatement", "(I)V"⟩, 12), 220, 603, 604)) rfl)) rfl
theorem q51 : Cond.selects "ControlText$Parser" yX4_startsConstant yX4_startsConstant ∈ ALL := mem_s (q := (⟨"ControlText$Parser", "startsConstant", "()Z"⟩, 12)) (mp1 (List.mem_of_getElem? (i := 11) (a := ((⟨"ControlText$Parser", "startsConstant", "()Z"⟩, 12), 220, 607, 608)) rfl)) rfl
theorem q52 : Cond.selects "ControlText$Parser" yX4_ranges yX4_ranges ∈ ALL := mem_s (q := (⟨"ControlText$Parser", "ranges", "(I)V"⟩, 12)) (mp1 (List.mem_of_getElem? (i := 12) (a := ((⟨"ControlText$Parser", "ranges", "(I)V"⟩, 12), 220, 611, 612)) rfl)) rfl
theorem q53 : Cond.selects "ControlText$Parser" yX4_forStatement yX4_forStatement ∈ ALL := mem_s (q := (⟨"ControlText$Parser", "forStatement", "(I)V"⟩, 12)) (mp1 (List.mem_of_getElem? (i := 13) (a := ((⟨"ControlText$Parser", "forStatement", "(I)V"⟩, 12), 220, 615, 616)) rfl)) rfl
theorem q54 : Cond.selects "ControlText$Parser" yX4_tellFault yX4_tellFault ∈ ALL := mem_s (q := (⟨"ControlText$Parser", "tellFault", "()V"⟩, 12)) (mp1 (List.mem_of_getElem? (i := 14) (a := ((⟨"ControlText$Parser", "tellFault", "()V"⟩, 12), 220, 622, 623)) rfl)) rfl
theorem q55 : Cond.selects "ControlText$Tree" yX3_firstUnfilled yX3_firstUnfilled ∈ ALL := mem_s (q := (⟨"ControlText$Tree", "firstUnfilled", "(I)I"⟩, 8)) (mp1 (List.mem_of_getElem? (i := 15) (a := ((⟨"ControlText$Tree", "firstUnfilled", "(I)I"⟩, 8), 186, 639, 640)) rfl)) rfl
theorem q56 : Cond.selects "ControlText$Writer" yX5_finishUpTo yX5_finishUpTo ∈ ALL := mem_s (q := (⟨"ControlText$Writer", "finishUpTo", "(II)V"⟩, 3)) (mp1 (List.mem_of_getElem? (i := 16) (a := ((⟨"ControlText$Writer", "finishUpTo", "(II)V"⟩, 3), 265, 691, 692)) rfl)) rfl
theorem q57 : Cond.selects "ControlText$Writer" yX5_finish yX5_finish ∈ ALL := mem_s (q := (⟨"ControlText$Writer", "finish", "(I)V"⟩, 3)) (mp1 (List.mem_of_getElem? (i := 17) (a := ((⟨"ControlText$Writer", "finish", "(I)V"⟩, 3), 265, 695, 696)) rfl)) rfl
theorem q58 : Cond.selects "ControlText$Writer" yX5_token yX5_token ∈ ALL := mem_s (q := (⟨"ControlText$Writer", "token", "(I)V"⟩, 3)) (mp1 (List.mem_of_getElem? (i := 18) (a := ((⟨"ControlText$Writer", "token", "(I)V"⟩, 3), 265, 701, 702)) rfl)) rfl
theorem q59 : Cond.selects "ControlText$Writer" yX5_word yX5_word ∈ ALL := mem_s (q := (⟨"ControlText$Writer", "word", "(I)V"⟩, 3)) (mp1 (List.mem_of_getElem? (i := 19) (a := ((⟨"ControlText$Writer", "word", "(I)V"⟩, 3), 265, 705, 706)) rfl)) rfl
theorem q60 : Cond.selects "ControlText$Writer" yX5_part yX5_part ∈ ALL := mem_s (q := (⟨"ControlText$Writer", "part", "()V"⟩, 3)) (mp1 (List.mem_of_getElem? (i := 20) (a := ((⟨"ControlText$Writer", "part", "()V"⟩, 3), 265, 709, 710)) rfl)) rfl
theorem q61 : Cond.selects "ControlText$Writer" yX5_isBracketed yX5_isBracketed ∈ ALL := mem_s (q := (⟨"ControlText$Writer", "isBracketed", "(I)Z"⟩, 3)) (mp1 (List.mem_of_getElem? (i := 21) (a := ((⟨"ControlText$Writer", "isBracketed", "(I)Z"⟩, 3), 265, 717, 718)) rfl)) rfl
theorem q62 : Cond.selects "ControlText$Writer" yX5_separate yX5_separate ∈ ALL := mem_s (q := (⟨"ControlText$Writer", "separate", "(I)V"⟩, 3)) (mp1 (List.mem_of_getElem? (i := 22) (a := ((⟨"ControlText$Writer", "separate", "(I)V"⟩, 3), 265, 733, 734)) rfl)) rfl
theorem q63 : Cond.selects "ControlText$Writer" yX5_begin yX5_begin ∈ ALL := mem_s (q := (⟨"ControlText$Writer", "begin", "(I)V"⟩, 3)) (mp1 (List.mem_of_getElem? (i := 23) (a := ((⟨"ControlText$Writer", "begin", "(I)V"⟩, 3), 265, 757, 758)) rfl)) rfl
theorem q64 : Cond.selects "ControlText$Writer" yX5_number yX5_number ∈ ALL := mem_s (q := (⟨"ControlText$Writer", "number", "(I)V"⟩, 3)) (mp1 (List.mem_of_getElem? (i := 24) (a := ((⟨"ControlText$Writer", "number", "(I)V"⟩, 3), 265, 770, 771)) rfl)) rfl
theorem q65 : Cond.selects "ControlText$Writer" yX5_digits yX5_digits ∈ ALL := mem_s (q := (⟨"ControlText$Writer", "digits", "(I)V"⟩, 3)) (mp1 (List.mem_of_getElem? (i := 25) (a := ((⟨"ControlText$Writer", "digits", "(I)V"⟩, 3), 265, 777, 778)) rfl)) rfl
theorem q66 : Cond.selects "ControlText$Writer" yX5_place yX5_place ∈ ALL := mem_s (q := (⟨"ControlText$Writer", "place", "(I)V"⟩, 3)) (mp1 (List.mem_of_getElem? (i := 26) (a := ((⟨"ControlText$Writer", "place", "(I)V"⟩, 3), 265, 782, 783)) rfl)) rfl
theorem q67 : Cond.selects "ControlTextModel" yX8_make yX8_make ∈ ALL := mem_s (q := (⟨"ControlTextModel", "make", "(III)I"⟩, 48)) (mp1 (List.mem_of_getElem? (i := 27) (a := ((⟨"ControlTextModel", "make", "(III)I"⟩, 48), 801, 972, 973)) rfl)) rfl
theorem q68 : Cond.selects "ControlTextModel" yX8_push yX8_push ∈ ALL := mem_s (q := (⟨"ControlTextModel", "push", "(I)V"⟩, 48)) (mp1 (List.mem_of_getElem? (i := 28) (a := ((⟨"ControlTextModel", "push", "(I)V"⟩, 48), 801, 976, 977)) rfl)) rfl
theorem q69 : Cond.selects "ControlTextModel" yX8_step yX8_step ∈ ALL := mem_s (q := (⟨"ControlTextModel", "step", "()V"⟩, 48)) (mp1 (List.mem_of_getElem? (i := 29) (a := ((⟨"ControlTextModel", "step", "()V"⟩, 48), 801, 980, 981)) rfl)) rfl
theorem q70 : Cond.selects "ControlTextModel" yX8_skip yX8_skip ∈ ALL := mem_s (q := (⟨"ControlTextModel", "skip", "()V"⟩, 48)) (mp1 (List.mem_of_getElem? (i := 30) (a := ((⟨"ControlTextModel", "skip", "()V"⟩, 48), 801, 984, 985)) rfl)) rfl
theorem q71 : Cond.selects "ControlTextModel" yX8_at yX8_at ∈ ALL := mem_s (q := (⟨"ControlTextModel", "at", "(I)I"⟩, 48)) (mp1 (List.mem_of_getElem? (i := 31) (a := ((⟨"ControlTextModel", "at", "(I)I"⟩, 48), 801, 988, 989)) rfl)) rfl
theorem q72 : Cond.selects "ControlTextModel" yX8_fail yX8_fail ∈ ALL := mem_s (q := (⟨"ControlTextModel", "fail", "(II)V"⟩, 48)) (mp1 (List.mem_of_getElem? (i := 32) (a := ((⟨"ControlTextModel", "fail", "(II)V"⟩, 48), 801, 992, 993)) rfl)) rfl
theorem q73 : Cond.selects "ControlTextModel" yX8_readNumber yX8_readNumber ∈ ALL := mem_s (q := (⟨"ControlTextModel", "readNumber", "(Z)V"⟩, 48)) (mp1 (List.mem_of_getElem? (i := 33) (a := ((⟨"ControlTextModel", "readNumber", "(Z)V"⟩, 48), 801, 996, 997)) rfl)) rfl
theorem q74 : Cond.selects "ControlTextModel" yX8_digits yX8_digits ∈ ALL := mem_s (q := (⟨"ControlTextModel", "digits", "(I)J"⟩, 48)) (mp1 (List.mem_of_getElem? (i := 34) (a := ((⟨"ControlTextModel", "digits", "(I)J"⟩, 48), 801, 1000, 1001)) rfl)) rfl
theorem q75 : Cond.selects "ControlTextModel" yX8_unit yX8_unit ∈ ALL := mem_s (q := (⟨"ControlTextModel", "unit", "()J"⟩, 48)) (mp1 (List.mem_of_getElem? (i := 35) (a := ((⟨"ControlTextModel", "unit", "()J"⟩, 48), 801, 1015, 1016)) rfl)) rfl
theorem q76 : Cond.selects "ControlTextModel" yX8_goesOn yX8_goesOn ∈ ALL := mem_s (q := (⟨"ControlTextModel", "goesOn", "(I)Z"⟩, 48)) (mp1 (List.mem_of_getElem? (i := 36) (a := ((⟨"ControlTextModel", "goesOn", "(I)Z"⟩, 48), 801, 1024, 1025)) rfl)) rfl
theorem q77 : Cond.selects "ControlTextModel" yX8_readName yX8_readName ∈ ALL := mem_s (q := (⟨"ControlTextModel", "readName", "()V"⟩, 48)) (mp1 (List.mem_of_getElem? (i := 37) (a := ((⟨"ControlTextModel", "readName", "()V"⟩, 48), 801, 1032, 1033)) rfl)) rfl
theorem q78 : Cond.selects "ControlTextModel" yX8_wordOf yX8_wordOf ∈ ALL := mem_s (q := (⟨"ControlTextModel", "wordOf", "(II)I"⟩, 48)) (mp1 (List.mem_of_getElem? (i := 38) (a := ((⟨"ControlTextModel", "wordOf", "(II)I"⟩, 48), 801, 1036, 1037)) rfl)) rfl
theorem q79 : Cond.selects "ControlTextModel" yX8_nameOf yX8_nameOf ∈ ALL := mem_s (q := (⟨"ControlTextModel", "nameOf", "(II)I"⟩, 48)) (mp1 (List.mem_of_getElem? (i := 39) (a := ((⟨"ControlTextModel", "nameOf", "(II)I"⟩, 48), 801, 1040, 1041)) rfl)) rfl
theorem q80 : Cond.selects "ControlTextModel" yX8_readPlace yX8_readPlace ∈ ALL := mem_s (q := (⟨"ControlTextModel", "readPlace", "()V"⟩, 48)) (mp2 (List.mem_of_getElem? (i := 0) (a := ((⟨"ControlTextModel", "readPlace", "()V"⟩, 48), 801, 1044, 1045)) rfl)) rfl
theorem q81 : Cond.selects "ControlTextModel" yX8_readSign yX8_readSign ∈ ALL := mem_s (q := (⟨"ControlTextModel", "readSign", "()V"⟩, 48)) (mp2 (List.mem_of_getElem? (i := 1) (a := ((⟨"ControlTextModel", "readSign", "()V"⟩, 48), 801, 1050, 1051)) rfl)) rfl
theorem q82 : Cond.selects "ControlTextModel" yX8_act yX8_act ∈ ALL := mem_s (q := (⟨"ControlTextModel", "act", "(I)V"⟩, 48)) (mp2 (List.mem_of_getElem? (i := 2) (a := ((⟨"ControlTextModel", "act", "(I)V"⟩, 48), 801, 1054, 1055)) rfl)) rfl
theorem q83 : Cond.selects "ControlTextModel" yX8_pass yX8_pass ∈ ALL := mem_s (q := (⟨"ControlTextModel", "pass", "(I)V"⟩, 48)) (mp2 (List.mem_of_getElem? (i := 3) (a := ((⟨"ControlTextModel", "pass", "(I)V"⟩, 48), 801, 1058, 1059)) rfl)) rfl
theorem q84 : Cond.selects "ControlTextModel" yX8_wrong yX8_wrong ∈ ALL := mem_s (q := (⟨"ControlTextModel", "wrong", "()V"⟩, 48)) (mp2 (List.mem_of_getElem? (i := 4) (a := ((⟨"ControlTextModel", "wrong", "()V"⟩, 48), 801, 1062, 1063)) rfl)) rfl
theorem q85 : Cond.selects "ControlTextModel" yX8_actBlock yX8_actBlock ∈ ALL := mem_s (q := (⟨"ControlTextModel", "actBlock", "(I)V"⟩, 48)) (mp2 (List.mem_of_getElem? (i := 5) (a := ((⟨"ControlTextModel", "actBlock", "(I)V"⟩, 48), 801, 1066, 1067)) rfl)) rfl
theorem q86 : Cond.selects "ControlTextModel" yX8_blocks yX8_blocks ∈ ALL := mem_s (q := (⟨"ControlTextModel", "blocks", "()V"⟩, 48)) (mp2 (List.mem_of_getElem? (i := 6) (a := ((⟨"ControlTextModel", "blocks", "()V"⟩, 48), 801, 1070, 1071)) rfl)) rfl
theorem q87 : Cond.selects "ControlTextModel" yX8_down yX8_down ∈ ALL := mem_s (q := (⟨"ControlTextModel", "down", "(III)V"⟩, 48)) (mp2 (List.mem_of_getElem? (i := 7) (a := ((⟨"ControlTextModel", "down", "(III)V"⟩, 48), 801, 1074, 1075)) rfl)) rfl
theorem q88 : Cond.selects "ControlTextModel" yX8_hang yX8_hang ∈ ALL := mem_s (q := (⟨"ControlTextModel", "hang", "(II)V"⟩, 48)) (mp2 (List.mem_of_getElem? (i := 8) (a := ((⟨"ControlTextModel", "hang", "(II)V"⟩, 48), 801, 1078, 1079)) rfl)) rfl
theorem q89 : Cond.selects "ControlTextModel" yX8_push4 yX8_push4 ∈ ALL := mem_s (q := (⟨"ControlTextModel", "push4", "(IIII)V"⟩, 48)) (mp2 (List.mem_of_getElem? (i := 9) (a := ((⟨"ControlTextModel", "push4", "(IIII)V"⟩, 48), 801, 1082, 1083)) rfl)) rfl
theorem q90 : Cond.selects "ControlTextModel" yX8_push2 yX8_push2 ∈ ALL := mem_s (q := (⟨"ControlTextModel", "push2", "(II)V"⟩, 48)) (mp2 (List.mem_of_getElem? (i := 10) (a := ((⟨"ControlTextModel", "push2", "(II)V"⟩, 48), 801, 1086, 1087)) rfl)) rfl
theorem q91 : Cond.selects "ControlTextModel" yX8_up yX8_up ∈ ALL := mem_s (q := (⟨"ControlTextModel", "up", "()V"⟩, 48)) (mp2 (List.mem_of_getElem? (i := 11) (a := ((⟨"ControlTextModel", "up", "()V"⟩, 48), 801, 1090, 1091)) rfl)) rfl
theorem q92 : Cond.selects "ControlTextModel" yX8_body yX8_body ∈ ALL := mem_s (q := (⟨"ControlTextModel", "body", "()V"⟩, 48)) (mp2 (List.mem_of_getElem? (i := 12) (a := ((⟨"ControlTextModel", "body", "()V"⟩, 48), 801, 1094, 1095)) rfl)) rfl
theorem q93 : Cond.selects "ControlTextModel" yX8_sections yX8_sections ∈ ALL := mem_s (q := (⟨"ControlTextModel", "sections", "()V"⟩, 48)) (mp2 (List.mem_of_getElem? (i := 13) (a := ((⟨"ControlTextModel", "sections", "()V"⟩, 48), 801, 1098, 1099)) rfl)) rfl
theorem q94 : Cond.selects "ControlTextModel" yX8_simple yX8_simple ∈ ALL := mem_s (q := (⟨"ControlTextModel", "simple", "()V"⟩, 48)) (mp2 (List.mem_of_getElem? (i := 14) (a := ((⟨"ControlTextModel", "simple", "()V"⟩, 48), 801, 1102, 1103)) rfl)) rfl
theorem q95 : Cond.selects "ControlTextModel" yX8_leaf yX8_leaf ∈ ALL := mem_s (q := (⟨"ControlTextModel", "leaf", "(III)V"⟩, 48)) (mp2 (List.mem_of_getElem? (i := 15) (a := ((⟨"ControlTextModel", "leaf", "(III)V"⟩, 48), 801, 1106, 1107)) rfl)) rfl
theorem q96 : Cond.selects "ControlTextModel" yX8_title yX8_title ∈ ALL := mem_s (q := (⟨"ControlTextModel", "title", "()V"⟩, 48)) (mp2 (List.mem_of_getElem? (i := 16) (a := ((⟨"ControlTextModel", "title", "()V"⟩, 48), 801, 1110, 1111)) rfl)) rfl
theorem q97 : Cond.selects "ControlTextModel" yX8_declarations yX8_declarations ∈ ALL := mem_s (q := (⟨"ControlTextModel", "declarations", "()V"⟩, 48)) (mp2 (List.mem_of_getElem? (i := 17) (a := ((⟨"ControlTextModel", "declarations", "()V"⟩, 48), 801, 1114, 1115)) rfl)) rfl
theorem q98 : Cond.selects "ControlTextModel" yX8_aName yX8_aName ∈ ALL := mem_s (q := (⟨"ControlTextModel", "aName", "()V"⟩, 48)) (mp2 (List.mem_of_getElem? (i := 18) (a := ((⟨"ControlTextModel", "aName", "()V"⟩, 48), 801, 1118, 1119)) rfl)) rfl
theorem q99 : Cond.selects "ControlTextModel" yX8_perhaps yX8_perhaps ∈ ALL := mem_s (q := (⟨"ControlTextModel", "perhaps", "(III)V"⟩, 48)) (mp2 (List.mem_of_getElem? (i := 19) (a := ((⟨"ControlTextModel", "perhaps", "(III)V"⟩, 48), 801, 1122, 1123)) rfl)) rfl
theorem q100 : Cond.selects "ControlTextModel" yX8_type yX8_type ∈ ALL := mem_s (q := (⟨"ControlTextModel", "type", "()V"⟩, 48)) (mp2 (List.mem_of_getElem? (i := 20) (a := ((⟨"ControlTextModel", "type", "()V"⟩, 48), 801, 1126, 1127)) rfl)) rfl
theorem q101 : Cond.selects "ControlTextModel" yX8_constant yX8_constant ∈ ALL := mem_s (q := (⟨"ControlTextModel", "constant", "()V"⟩, 48)) (mp2 (List.mem_of_getElem? (i := 21) (a := ((⟨"ControlTextModel", "constant", "()V"⟩, 48), 801, 1130, 1131)) rfl)) rfl
theorem q102 : Cond.selects "ControlTextModel" yX8_lessNumber yX8_lessNumber ∈ ALL := mem_s (q := (⟨"ControlTextModel", "lessNumber", "()V"⟩, 48)) (mp2 (List.mem_of_getElem? (i := 22) (a := ((⟨"ControlTextModel", "lessNumber", "()V"⟩, 48), 801, 1134, 1135)) rfl)) rfl
theorem q103 : Cond.selects "ControlTextModel" yX8_actStatement yX8_actStatement ∈ ALL := mem_s (q := (⟨"ControlTextModel", "actStatement", "(I)V"⟩, 48)) (mp2 (List.mem_of_getElem? (i := 23) (a := ((⟨"ControlTextModel", "actStatement", "(I)V"⟩, 48), 801, 1138, 1139)) rfl)) rfl
theorem q104 : Cond.selects "ControlTextModel" yX8_statements yX8_statements ∈ ALL := mem_s (q := (⟨"ControlTextModel", "statements", "()V"⟩, 48)) (mp2 (List.mem_of_getElem? (i := 24) (a := ((⟨"ControlTextModel", "statements", "()V"⟩, 48), 801, 1142, 1143)) rfl)) rfl
theorem q105 : Cond.selects "ControlTextModel" yX8_keepName yX8_keepName ∈ ALL := mem_s (q := (⟨"ControlTextModel", "keepName", "()V"⟩, 48)) (mp2 (List.mem_of_getElem? (i := 25) (a := ((⟨"ControlTextModel", "keepName", "()V"⟩, 48), 801, 1146, 1147)) rfl)) rfl
theorem q106 : Cond.selects "ControlTextModel" yX8_opens yX8_opens ∈ ALL := mem_s (q := (⟨"ControlTextModel", "opens", "()Z"⟩, 48)) (mp2 (List.mem_of_getElem? (i := 26) (a := ((⟨"ControlTextModel", "opens", "()Z"⟩, 48), 801, 1150, 1151)) rfl)) rfl
theorem q107 : Cond.selects "ControlTextModel" yX8_compound yX8_compound ∈ ALL := mem_s (q := (⟨"ControlTextModel", "compound", "()V"⟩, 48)) (mp2 (List.mem_of_getElem? (i := 27) (a := ((⟨"ControlTextModel", "compound", "()V"⟩, 48), 801, 1154, 1155)) rfl)) rfl
theorem q108 : Cond.selects "ControlTextModel" yX8_pushExpression yX8_pushExpression ∈ ALL := mem_s (q := (⟨"ControlTextModel", "pushExpression", "()V"⟩, 48)) (mp2 (List.mem_of_getElem? (i := 28) (a := ((⟨"ControlTextModel", "pushExpression", "()V"⟩, 48), 801, 1158, 1159)) rfl)) rfl
theorem q109 : Cond.selects "ControlTextModel" yX8_behindName yX8_behindName ∈ ALL := mem_s (q := (⟨"ControlTextModel", "behindName", "()V"⟩, 48)) (mp2 (List.mem_of_getElem? (i := 29) (a := ((⟨"ControlTextModel", "behindName", "()V"⟩, 48), 801, 1162, 1163)) rfl)) rfl
theorem q110 : Cond.selects "ControlTextModel" yX8_ifRest yX8_ifRest ∈ ALL := mem_s (q := (⟨"ControlTextModel", "ifRest", "()V"⟩, 48)) (mp2 (List.mem_of_getElem? (i := 30) (a := ((⟨"ControlTextModel", "ifRest", "()V"⟩, 48), 801, 1166, 1167)) rfl)) rfl
theorem q111 : Cond.selects "ControlTextModel" yX8_elseBody yX8_elseBody ∈ ALL := mem_s (q := (⟨"ControlTextModel", "elseBody", "()V"⟩, 48)) (mp2 (List.mem_of_getElem? (i := 31) (a := ((⟨"ControlTextModel", "elseBody", "()V"⟩, 48), 801, 1170, 1171)) rfl)) rfl
theorem q112 : Cond.selects "ControlTextModel" yX8_bodyBehind yX8_bodyBehind ∈ ALL := mem_s (q := (⟨"ControlTextModel", "bodyBehind", "(I)V"⟩, 48)) (mp2 (List.mem_of_getElem? (i := 32) (a := ((⟨"ControlTextModel", "bodyBehind", "(I)V"⟩, 48), 801, 1174, 1175)) rfl)) rfl
theorem q113 : Cond.selects "ControlTextModel" yX8_choices yX8_choices ∈ ALL := mem_s (q := (⟨"ControlTextModel", "choices", "()V"⟩, 48)) (mp2 (List.mem_of_getElem? (i := 33) (a := ((⟨"ControlTextModel", "choices", "()V"⟩, 48), 801, 1178, 1179)) rfl)) rfl
theorem q114 : Cond.selects "ControlTextModel" yX8_isConstant yX8_isConstant ∈ ALL := mem_s (q := (⟨"ControlTextModel", "isConstant", "()Z"⟩, 48)) (mp2 (List.mem_of_getElem? (i := 34) (a := ((⟨"ControlTextModel", "isConstant", "()Z"⟩, 48), 801, 1182, 1183)) rfl)) rfl
theorem q115 : Cond.selects "ControlTextModel" yX8_range yX8_range ∈ ALL := mem_s (q := (⟨"ControlTextModel", "range", "()V"⟩, 48)) (mp2 (List.mem_of_getElem? (i := 35) (a := ((⟨"ControlTextModel", "range", "()V"⟩, 48), 801, 1186, 1187)) rfl)) rfl
theorem q116 : Cond.selects "ControlTextModel" yX8_assign yX8_assign ∈ ALL := mem_s (q := (⟨"ControlTextModel", "assign", "()V"⟩, 48)) (mp2 (List.mem_of_getElem? (i := 36) (a := ((⟨"ControlTextModel", "assign", "()V"⟩, 48), 801, 1190, 1191)) rfl)) rfl
theorem q117 : Cond.selects "ControlTextModel" yX8_indexEnd yX8_indexEnd ∈ ALL := mem_s (q := (⟨"ControlTextModel", "indexEnd", "()V"⟩, 48)) (mp2 (List.mem_of_getElem? (i := 37) (a := ((⟨"ControlTextModel", "indexEnd", "()V"⟩, 48), 801, 1194, 1195)) rfl)) rfl
theorem q118 : Cond.selects "ControlTextModel" yX8_parameter yX8_parameter ∈ ALL := mem_s (q := (⟨"ControlTextModel", "parameter", "()V"⟩, 48)) (mp2 (List.mem_of_getElem? (i := 38) (a := ((⟨"ControlTextModel", "parameter", "()V"⟩, 48), 801, 1198, 1199)) rfl)) rfl
theorem q119 : Cond.selects "ControlTextModel" yX8_actOperand yX8_actOperand ∈ ALL := mem_s (q := (⟨"ControlTextModel", "actOperand", "(I)V"⟩, 48)) (mp2 (List.mem_of_getElem? (i := 39) (a := ((⟨"ControlTextModel", "actOperand", "(I)V"⟩, 48), 801, 1202, 1203)) rfl)) rfl
theorem q120 : Cond.selects "ControlTextModel" yX8_expression yX8_expression ∈ ALL := mem_s (q := (⟨"ControlTextModel", "expression", "()V"⟩, 48)) (mp3 (List.mem_of_getElem? (i := 0) (a := ((⟨"ControlTextModel", "expression", "()V"⟩, 48), 801, 1206, 1207)) rfl)) rfl
theorem q121 : Cond.selects "ControlTextModel" yX8_waitFor yX8_waitFor ∈ ALL := mem_s (q := (⟨"ControlTextModel", "waitFor", "(II)V"⟩, 48)) (mp3 (List.mem_of_getElem? (i := 1) (a := ((⟨"ControlTextModel", "waitFor", "(II)V"⟩, 48), 801, 1210, 1211)) rfl)) rfl
theorem q122 : Cond.selects "ControlTextModel" yX8_anOperand yX8_anOperand ∈ ALL := mem_s (q := (⟨"ControlTextModel", "anOperand", "()V"⟩, 48)) (mp3 (List.mem_of_getElem? (i := 2) (a := ((⟨"ControlTextModel", "anOperand", "()V"⟩, 48), 801, 1214, 1215)) rfl)) rfl
theorem q123 : Cond.selects "ControlTextModel" yX8_operandCame yX8_operandCame ∈ ALL := mem_s (q := (⟨"ControlTextModel", "operandCame", "(I)V"⟩, 48)) (mp3 (List.mem_of_getElem? (i := 3) (a := ((⟨"ControlTextModel", "operandCame", "(I)V"⟩, 48), 801, 1218, 1219)) rfl)) rfl
theorem q124 : Cond.selects "ControlTextModel" yX8_putOperand yX8_putOperand ∈ ALL := mem_s (q := (⟨"ControlTextModel", "putOperand", "(I)V"⟩, 48)) (mp3 (List.mem_of_getElem? (i := 4) (a := ((⟨"ControlTextModel", "putOperand", "(I)V"⟩, 48), 801, 1222, 1223)) rfl)) rfl
theorem q125 : Cond.selects "ControlTextModel" yX8_settle yX8_settle ∈ ALL := mem_s (q := (⟨"ControlTextModel", "settle", "()V"⟩, 48)) (mp3 (List.mem_of_getElem? (i := 5) (a := ((⟨"ControlTextModel", "settle", "()V"⟩, 48), 801, 1226, 1227)) rfl)) rfl
theorem q126 : Cond.selects "ControlTextModel" yX8_takeOperand yX8_takeOperand ∈ ALL := mem_s (q := (⟨"ControlTextModel", "takeOperand", "()I"⟩, 48)) (mp3 (List.mem_of_getElem? (i := 6) (a := ((⟨"ControlTextModel", "takeOperand", "()I"⟩, 48), 801, 1230, 1231)) rfl)) rfl
theorem q127 : Cond.selects "ControlTextModel" yX8_signRest yX8_signRest ∈ ALL := mem_s (q := (⟨"ControlTextModel", "signRest", "()V"⟩, 48)) (mp3 (List.mem_of_getElem? (i := 7) (a := ((⟨"ControlTextModel", "signRest", "()V"⟩, 48), 801, 1234, 1235)) rfl)) rfl
theorem q128 : Cond.selects "ControlTextModel" yX8_signAt yX8_signAt ∈ ALL := mem_s (q := (⟨"ControlTextModel", "signAt", "()I"⟩, 48)) (mp3 (List.mem_of_getElem? (i := 8) (a := ((⟨"ControlTextModel", "signAt", "()I"⟩, 48), 801, 1238, 1239)) rfl)) rfl
theorem q129 : Cond.selects "ControlTextModel" yX8_groupEnd yX8_groupEnd ∈ ALL := mem_s (q := (⟨"ControlTextModel", "groupEnd", "()V"⟩, 48)) (mp3 (List.mem_of_getElem? (i := 9) (a := ((⟨"ControlTextModel", "groupEnd", "()V"⟩, 48), 801, 1245, 1246)) rfl)) rfl
theorem q130 : Cond.selects "ControlTextModel" yX8_behindOperand yX8_behindOperand ∈ ALL := mem_s (q := (⟨"ControlTextModel", "behindOperand", "()V"⟩, 48)) (mp3 (List.mem_of_getElem? (i := 10) (a := ((⟨"ControlTextModel", "behindOperand", "()V"⟩, 48), 801, 1249, 1250)) rfl)) rfl
theorem q131 : Cond.selects "ControlTextModel" yX8_start yX8_start ∈ ALL := mem_s (q := (⟨"ControlTextModel", "start", "(I)V"⟩, 48)) (mp3 (List.mem_of_getElem? (i := 11) (a := ((⟨"ControlTextModel", "start", "(I)V"⟩, 48), 801, 1253, 1254)) rfl)) rfl
theorem q132 : Cond.selects "ControlTextModel" yX8_elementEnd yX8_elementEnd ∈ ALL := mem_s (q := (⟨"ControlTextModel", "elementEnd", "()V"⟩, 48)) (mp3 (List.mem_of_getElem? (i := 12) (a := ((⟨"ControlTextModel", "elementEnd", "()V"⟩, 48), 801, 1257, 1258)) rfl)) rfl
theorem q133 : Cond.selects "ControlTextModel" yX8_argument yX8_argument ∈ ALL := mem_s (q := (⟨"ControlTextModel", "argument", "()V"⟩, 48)) (mp3 (List.mem_of_getElem? (i := 13) (a := ((⟨"ControlTextModel", "argument", "()V"⟩, 48), 801, 1261, 1262)) rfl)) rfl
theorem q134 : Cond.selects "ControlTextModel" yX8_finish yX8_finish ∈ ALL := mem_s (q := (⟨"ControlTextModel", "finish", "()V"⟩, 48)) (mp3 (List.mem_of_getElem? (i := 14) (a := ((⟨"ControlTextModel", "finish", "()V"⟩, 48), 801, 1265, 1266)) rfl)) rfl
theorem q135 : Cond.selects "ControlTextModel" yX8_output yX8_output ∈ ALL := mem_s (q := (⟨"ControlTextModel", "output", "()V"⟩, 48)) (mp3 (List.mem_of_getElem? (i := 15) (a := ((⟨"ControlTextModel", "output", "()V"⟩, 48), 801, 1269, 1270)) rfl)) rfl
theorem q136 : Cond.selects "ControlTextModel" yX8_isOperand yX8_isOperand ∈ ALL := mem_s (q := (⟨"ControlTextModel", "isOperand", "()Z"⟩, 48)) (mp3 (List.mem_of_getElem? (i := 16) (a := ((⟨"ControlTextModel", "isOperand", "()Z"⟩, 48), 801, 1273, 1274)) rfl)) rfl
theorem q137 : Cond.selects "ControlTextModel" yX8_pushArgument yX8_pushArgument ∈ ALL := mem_s (q := (⟨"ControlTextModel", "pushArgument", "()V"⟩, 48)) (mp3 (List.mem_of_getElem? (i := 17) (a := ((⟨"ControlTextModel", "pushArgument", "()V"⟩, 48), 801, 1277, 1278)) rfl)) rfl
theorem q138 : Cond.selects "ControlTextModel" yX8_resultEnd yX8_resultEnd ∈ ALL := mem_s (q := (⟨"ControlTextModel", "resultEnd", "()V"⟩, 48)) (mp3 (List.mem_of_getElem? (i := 18) (a := ((⟨"ControlTextModel", "resultEnd", "()V"⟩, 48), 801, 1281, 1282)) rfl)) rfl
theorem q139 : Cond.selects "ControlTextModel" yX8_actRung yX8_actRung ∈ ALL := mem_s (q := (⟨"ControlTextModel", "actRung", "(I)V"⟩, 48)) (mp3 (List.mem_of_getElem? (i := 19) (a := ((⟨"ControlTextModel", "actRung", "(I)V"⟩, 48), 801, 1285, 1286)) rfl)) rfl
theorem q140 : Cond.selects "ControlTextModel" yX8_isCell yX8_isCell ∈ ALL := mem_s (q := (⟨"ControlTextModel", "isCell", "()Z"⟩, 48)) (mp3 (List.mem_of_getElem? (i := 20) (a := ((⟨"ControlTextModel", "isCell", "()Z"⟩, 48), 801, 1289, 1290)) rfl)) rfl
theorem q141 : Cond.selects "ControlTextModel" yX8_cell yX8_cell ∈ ALL := mem_s (q := (⟨"ControlTextModel", "cell", "()V"⟩, 48)) (mp3 (List.mem_of_getElem? (i := 21) (a := ((⟨"ControlTextModel", "cell", "()V"⟩, 48), 801, 1293, 1294)) rfl)) rfl
theorem q142 : Cond.selects "ControlTextModel" yX8_moreCells yX8_moreCells ∈ ALL := mem_s (q := (⟨"ControlTextModel", "moreCells", "()V"⟩, 48)) (mp3 (List.mem_of_getElem? (i := 22) (a := ((⟨"ControlTextModel", "moreCells", "()V"⟩, 48), 801, 1297, 1298)) rfl)) rfl
theorem q143 : Cond.selects "ControlTextModel" yX8_contact yX8_contact ∈ ALL := mem_s (q := (⟨"ControlTextModel", "contact", "()V"⟩, 48)) (mp3 (List.mem_of_getElem? (i := 23) (a := ((⟨"ControlTextModel", "contact", "()V"⟩, 48), 801, 1301, 1302)) rfl)) rfl
theorem q144 : Cond.selects "ControlTextModel" yX8_behindContact yX8_behindContact ∈ ALL := mem_s (q := (⟨"ControlTextModel", "behindContact", "()V"⟩, 48)) (mp3 (List.mem_of_getElem? (i := 24) (a := ((⟨"ControlTextModel", "behindContact", "()V"⟩, 48), 801, 1305, 1306)) rfl)) rfl
theorem q145 : Cond.selects "ControlTextModel" yX8_coil yX8_coil ∈ ALL := mem_s (q := (⟨"ControlTextModel", "coil", "()V"⟩, 48)) (mp3 (List.mem_of_getElem? (i := 25) (a := ((⟨"ControlTextModel", "coil", "()V"⟩, 48), 801, 1309, 1310)) rfl)) rfl
theorem q146 : Cond.selects "ControlTextModel" yX8_number yX8_number ∈ ALL := mem_s (q := (⟨"ControlTextModel", "number", "()V"⟩, 48)) (mp3 (List.mem_of_getElem? (i := 26) (a := ((⟨"ControlTextModel", "number", "()V"⟩, 48), 801, 1313, 1314)) rfl)) rfl
theorem q147 : Cond.selects "ControlTextModel" yX8_following yX8_following ∈ ALL := mem_s (q := (⟨"ControlTextModel", "following", "(I)I"⟩, 48)) (mp3 (List.mem_of_getElem? (i := 27) (a := ((⟨"ControlTextModel", "following", "(I)I"⟩, 48), 801, 1317, 1318)) rfl)) rfl
theorem q148 : Cond.selects "ControlTextModel" yX8_children yX8_children ∈ ALL := mem_s (q := (⟨"ControlTextModel", "children", "(I)I"⟩, 48)) (mp3 (List.mem_of_getElem? (i := 28) (a := ((⟨"ControlTextModel", "children", "(I)I"⟩, 48), 801, 1329, 1330)) rfl)) rfl
theorem q149 : Cond.selects "ControlTextModel" yX8_item yX8_item ∈ ALL := mem_s (q := (⟨"ControlTextModel", "item", "(II)V"⟩, 48)) (mp3 (List.mem_of_getElem? (i := 29) (a := ((⟨"ControlTextModel", "item", "(II)V"⟩, 48), 801, 1341, 1342)) rfl)) rfl
theorem q150 : Cond.selects "ControlTextModel" yX8_openItem yX8_openItem ∈ ALL := mem_s (q := (⟨"ControlTextModel", "openItem", "(II)V"⟩, 48)) (mp3 (List.mem_of_getElem? (i := 30) (a := ((⟨"ControlTextModel", "openItem", "(II)V"⟩, 48), 801, 1345, 1346)) rfl)) rfl
theorem q151 : Cond.selects "ControlTextModel" yX8_putToken yX8_putToken ∈ ALL := mem_s (q := (⟨"ControlTextModel", "putToken", "(I)V"⟩, 48)) (mp3 (List.mem_of_getElem? (i := 31) (a := ((⟨"ControlTextModel", "putToken", "(I)V"⟩, 48), 801, 1349, 1350)) rfl)) rfl
theorem q152 : Cond.selects "ControlTextModel" yX8_part yX8_part ∈ ALL := mem_s (q := (⟨"ControlTextModel", "part", "(I)V"⟩, 48)) (mp3 (List.mem_of_getElem? (i := 32) (a := ((⟨"ControlTextModel", "part", "(I)V"⟩, 48), 801, 1353, 1354)) rfl)) rfl
theorem q153 : Cond.selects "ControlTextModel" yX8_put yX8_put ∈ ALL := mem_s (q := (⟨"ControlTextModel", "put", "(I)V"⟩, 48)) (mp3 (List.mem_of_getElem? (i := 33) (a := ((⟨"ControlTextModel", "put", "(I)V"⟩, 48), 801, 1360, 1361)) rfl)) rfl
theorem q154 : Cond.selects "ControlTextModel" yX8_putName yX8_putName ∈ ALL := mem_s (q := (⟨"ControlTextModel", "putName", "(I)V"⟩, 48)) (mp3 (List.mem_of_getElem? (i := 34) (a := ((⟨"ControlTextModel", "putName", "(I)V"⟩, 48), 801, 1364, 1365)) rfl)) rfl
theorem q155 : Cond.selects "ControlTextModel" yX8_openParts yX8_openParts ∈ ALL := mem_s (q := (⟨"ControlTextModel", "openParts", "(I)V"⟩, 48)) (mp3 (List.mem_of_getElem? (i := 35) (a := ((⟨"ControlTextModel", "openParts", "(I)V"⟩, 48), 801, 1368, 1369)) rfl)) rfl
theorem q156 : Cond.selects "ControlTextModel" yX8_openNode yX8_openNode ∈ ALL := mem_s (q := (⟨"ControlTextModel", "openNode", "(I)V"⟩, 48)) (mp3 (List.mem_of_getElem? (i := 36) (a := ((⟨"ControlTextModel", "openNode", "(I)V"⟩, 48), 801, 1372, 1373)) rfl)) rfl
theorem q157 : Cond.selects "ControlTextModel" yX8_openBlock yX8_openBlock ∈ ALL := mem_s (q := (⟨"ControlTextModel", "openBlock", "(I)V"⟩, 48)) (mp3 (List.mem_of_getElem? (i := 37) (a := ((⟨"ControlTextModel", "openBlock", "(I)V"⟩, 48), 801, 1376, 1377)) rfl)) rfl
theorem q158 : Cond.selects "ControlTextModel" yX8_itemBlock yX8_itemBlock ∈ ALL := mem_s (q := (⟨"ControlTextModel", "itemBlock", "(III)V"⟩, 48)) (mp3 (List.mem_of_getElem? (i := 38) (a := ((⟨"ControlTextModel", "itemBlock", "(III)V"⟩, 48), 801, 1380, 1381)) rfl)) rfl
theorem q159 : Cond.selects "ControlTextModel" yX8_second yX8_second ∈ ALL := mem_s (q := (⟨"ControlTextModel", "second", "(I)I"⟩, 48)) (mp3 (List.mem_of_getElem? (i := 39) (a := ((⟨"ControlTextModel", "second", "(I)I"⟩, 48), 801, 1384, 1385)) rfl)) rfl
theorem q160 : Cond.selects "ControlTextModel" yX8_itemAll yX8_itemAll ∈ ALL := mem_s (q := (⟨"ControlTextModel", "itemAll", "(IIII)V"⟩, 48)) (mp4 (List.mem_of_getElem? (i := 0) (a := ((⟨"ControlTextModel", "itemAll", "(IIII)V"⟩, 48), 801, 1388, 1389)) rfl)) rfl
theorem q161 : Cond.selects "ControlTextModel" yX8_putPlace yX8_putPlace ∈ ALL := mem_s (q := (⟨"ControlTextModel", "putPlace", "(I)V"⟩, 48)) (mp4 (List.mem_of_getElem? (i := 1) (a := ((⟨"ControlTextModel", "putPlace", "(I)V"⟩, 48), 801, 1392, 1393)) rfl)) rfl
theorem q162 : Cond.selects "ControlTextModel" yX8_itemArray yX8_itemArray ∈ ALL := mem_s (q := (⟨"ControlTextModel", "itemArray", "(I)V"⟩, 48)) (mp4 (List.mem_of_getElem? (i := 2) (a := ((⟨"ControlTextModel", "itemArray", "(I)V"⟩, 48), 801, 1396, 1397)) rfl)) rfl
theorem q163 : Cond.selects "ControlTextModel" yX8_openStatement yX8_openStatement ∈ ALL := mem_s (q := (⟨"ControlTextModel", "openStatement", "(I)V"⟩, 48)) (mp4 (List.mem_of_getElem? (i := 3) (a := ((⟨"ControlTextModel", "openStatement", "(I)V"⟩, 48), 801, 1400, 1401)) rfl)) rfl
theorem q164 : Cond.selects "ControlTextModel" yX8_itemFor yX8_itemFor ∈ ALL := mem_s (q := (⟨"ControlTextModel", "itemFor", "(I)V"⟩, 48)) (mp4 (List.mem_of_getElem? (i := 4) (a := ((⟨"ControlTextModel", "itemFor", "(I)V"⟩, 48), 801, 1404, 1405)) rfl)) rfl
theorem q165 : Cond.selects "ControlTextModel" yX8_openRung yX8_openRung ∈ ALL := mem_s (q := (⟨"ControlTextModel", "openRung", "(I)V"⟩, 48)) (mp4 (List.mem_of_getElem? (i := 5) (a := ((⟨"ControlTextModel", "openRung", "(I)V"⟩, 48), 801, 1408, 1409)) rfl)) rfl
theorem q166 : Cond.selects "ControlTextModel" yX8_openOperand yX8_openOperand ∈ ALL := mem_s (q := (⟨"ControlTextModel", "openOperand", "(I)V"⟩, 48)) (mp4 (List.mem_of_getElem? (i := 6) (a := ((⟨"ControlTextModel", "openOperand", "(I)V"⟩, 48), 801, 1412, 1413)) rfl)) rfl
theorem q167 : Cond.selects "ControlTextModel" yX8_putNumber yX8_putNumber ∈ ALL := mem_s (q := (⟨"ControlTextModel", "putNumber", "(I)V"⟩, 48)) (mp4 (List.mem_of_getElem? (i := 7) (a := ((⟨"ControlTextModel", "putNumber", "(I)V"⟩, 48), 801, 1416, 1417)) rfl)) rfl
theorem q168 : Cond.selects "ControlTextModel" yX8_itemOperand yX8_itemOperand ∈ ALL := mem_s (q := (⟨"ControlTextModel", "itemOperand", "(IIZ)V"⟩, 48)) (mp4 (List.mem_of_getElem? (i := 8) (a := ((⟨"ControlTextModel", "itemOperand", "(IIZ)V"⟩, 48), 801, 1422, 1423)) rfl)) rfl
theorem q169 : Cond.selects "ControlTextModel" yX8_openIf yX8_openIf ∈ ALL := mem_s (q := (⟨"ControlTextModel", "openIf", "(I)V"⟩, 48)) (mp4 (List.mem_of_getElem? (i := 9) (a := ((⟨"ControlTextModel", "openIf", "(I)V"⟩, 48), 801, 1429, 1430)) rfl)) rfl
theorem q170 : Cond.selects "ControlTextModel" yX8_openCase yX8_openCase ∈ ALL := mem_s (q := (⟨"ControlTextModel", "openCase", "(I)V"⟩, 48)) (mp4 (List.mem_of_getElem? (i := 10) (a := ((⟨"ControlTextModel", "openCase", "(I)V"⟩, 48), 801, 1433, 1434)) rfl)) rfl
theorem q171 : Cond.selects "ControlTextModel" yX8_openRow yX8_openRow ∈ ALL := mem_s (q := (⟨"ControlTextModel", "openRow", "(II)V"⟩, 48)) (mp4 (List.mem_of_getElem? (i := 11) (a := ((⟨"ControlTextModel", "openRow", "(II)V"⟩, 48), 801, 1437, 1438)) rfl)) rfl
theorem q172 : Cond.initialized "ControlTextLaw" ∈ ALL := mr0 (List.mem_of_getElem? (i := 0) rfl) rfl
theorem q173 : Cond.initialized "ControlText" ∈ ALL := mr0 (List.mem_of_getElem? (i := 1) rfl) rfl
theorem q174 : Cond.initialized "ControlText$Bytes" ∈ ALL := mr0 (List.mem_of_getElem? (i := 2) rfl) rfl
theorem q175 : Cond.initialized "ControlText$Names" ∈ ALL := mr0 (List.mem_of_getElem? (i := 3) rfl) rfl
theorem q176 : Cond.initialized "java/lang/String" ∈ ALL := mr0 (List.mem_of_getElem? (i := 4) rfl) rfl
theorem q177 : Cond.initialized "java/lang/StringLatin1" ∈ ALL := mr0 (List.mem_of_getElem? (i := 5) rfl) rfl
theorem q178 : Cond.initialized "jdk/internal/util/Preconditions" ∈ ALL := mr0 (List.mem_of_getElem? (i := 6) rfl) rfl
theorem q179 : Cond.initialized "java/lang/StringUTF16" ∈ ALL := mr0 (List.mem_of_getElem? (i := 7) rfl) rfl
theorem q180 : Cond.initialized "ControlText$Tokens" ∈ ALL := mr0 (List.mem_of_getElem? (i := 8) rfl) rfl
theorem q181 : Cond.initialized "ControlText$Tree" ∈ ALL := mr0 (List.mem_of_getElem? (i := 9) rfl) rfl
theorem q182 : Cond.initialized "ControlText$Parser" ∈ ALL := mr0 (List.mem_of_getElem? (i := 10) rfl) rfl
theorem q183 : Cond.initialized "ControlText$Writer" ∈ ALL := mr0 (List.mem_of_getElem? (i := 11) rfl) rfl
theorem q184 : Cond.initialized "ControlTextModel" ∈ ALL := mr0 (List.mem_of_getElem? (i := 12) rfl) rfl
theorem q185 : Cond.initialized "java/lang/Math" ∈ ALL := mr0 (List.mem_of_getElem? (i := 13) rfl) rfl
theorem q186 : Cond.initialized "ControlText$Sign" ∈ ALL := mr0 (List.mem_of_getElem? (i := 14) rfl) rfl
theorem q187 : Cond.initialized "java/lang/System" ∈ ALL := mr0 (List.mem_of_getElem? (i := 15) rfl) rfl
theorem q188 : Cond.classLink "ControlTextLaw" 7 "ControlText" ∈ ALL := mr0 (List.mem_of_getElem? (i := 16) rfl) rfl
theorem q189 : Cond.instantiable "ControlText" 7 ∈ ALL := mr0 (List.mem_of_getElem? (i := 17) rfl) rfl
theorem q190 : Cond.methodLink "ControlTextLaw" 9 yX6_init ∈ ALL := mr0 (List.mem_of_getElem? (i := 18) rfl) rfl
theorem q191 : Cond.instanceMethod yX6_init ∈ ALL := mr0 (List.mem_of_getElem? (i := 19) rfl) rfl
theorem q192 : Cond.code yX6_init prog_1_method_1_code 1 (Option.none : Option Jvm.ClassFile.FieldType) ∈ ALL := mr0 (List.mem_of_getElem? (i := 20) rfl) rfl
theorem q193 : Cond.methodLink "ControlText" 3 ⟨"java/lang/Object", "<init>", "()V"⟩ ∈ ALL := mr0 (List.mem_of_getElem? (i := 21) rfl) rfl
theorem q194 : Cond.instanceMethod ⟨"java/lang/Object", "<init>", "()V"⟩ ∈ ALL := mr0 (List.mem_of_getElem? (i := 22) rfl) rfl
theorem q195 : Cond.code ⟨"java/lang/Object", "<init>", "()V"⟩ object_method_1_code 1 (Option.none : Option Jvm.ClassFile.FieldType) ∈ ALL := mr0 (List.mem_of_getElem? (i := 23) rfl) rfl
theorem q196 : Cond.classLink "ControlText" 9 "ControlText$Bytes" ∈ ALL := mr0 (List.mem_of_getElem? (i := 24) rfl) rfl
theorem q197 : Cond.instantiable "ControlText$Bytes" 2 ∈ ALL := mr0 (List.mem_of_getElem? (i := 25) rfl) rfl
theorem q198 : Cond.methodLink "ControlText" 11 yX0_init ∈ ALL := mr0 (List.mem_of_getElem? (i := 26) rfl) rfl
theorem q199 : Cond.instanceMethod yX0_init ∈ ALL := mr0 (List.mem_of_getElem? (i := 27) rfl) rfl
theorem q200 : Cond.code yX0_init prog_2_method_1_code 2 (Option.none : Option Jvm.ClassFile.FieldType) ∈ ALL := mr0 (List.mem_of_getElem? (i := 28) rfl) rfl
theorem q201 : Cond.methodLink "ControlText$Bytes" 3 ⟨"java/lang/Object", "<init>", "()V"⟩ ∈ ALL := mr0 (List.mem_of_getElem? (i := 29) rfl) rfl
theorem q202 : Cond.fieldLink "ControlText$Bytes" 9 "ControlText$Bytes" "bytes" "[I" ∈ ALL := mr0 (List.mem_of_getElem? (i := 30) rfl) rfl
theorem q204 : Cond.fieldLink "ControlText$Bytes" 15 "ControlText$Bytes" "size" "I" ∈ ALL := mr0 (List.mem_of_getElem? (i := 32) rfl) rfl
theorem q207 : Cond.laysFinal "ControlText$Bytes" "ControlText$Bytes" "bytes" "[I" ∈ ALL := mr0 (List.mem_of_getElem? (i := 35) rfl) rfl
theorem q209 : Cond.lays "ControlText$Bytes" "ControlText$Bytes" "size" "I" ∈ ALL := mr0 (List.mem_of_getElem? (i := 37) rfl) rfl
theorem q212 : Cond.arrayClass Jvm.ClassFile.FieldType.int ∈ ALL := mr0 (List.mem_of_getElem? (i := 40) rfl) rfl
theorem q213 : Cond.classLink "ControlText" 21 "ControlText$Names" ∈ ALL := mr0 (List.mem_of_getElem? (i := 41) rfl) rfl
theorem q214 : Cond.instantiable "ControlText$Names" 6 ∈ ALL := mr0 (List.mem_of_getElem? (i := 42) rfl) rfl
theorem q215 : Cond.methodLink "ControlText" 23 yX1_init ∈ ALL := mr0 (List.mem_of_getElem? (i := 43) rfl) rfl
theorem q216 : Cond.instanceMethod yX1_init ∈ ALL := mr0 (List.mem_of_getElem? (i := 44) rfl) rfl
theorem q217 : Cond.code yX1_init prog_4_method_1_code 1 (Option.none : Option Jvm.ClassFile.FieldType) ∈ ALL := mr0 (List.mem_of_getElem? (i := 45) rfl) rfl
theorem q218 : Cond.methodLink "ControlText$Names" 5 ⟨"java/lang/Object", "<init>", "()V"⟩ ∈ ALL := mr0 (List.mem_of_getElem? (i := 46) rfl) rfl
theorem q220 : Cond.methodLink "ControlText$Names" 28 yX1_addWords ∈ ALL := mr0 (List.mem_of_getElem? (i := 48) rfl) rfl
theorem q222 : Cond.instanceMethod yX1_addWords ∈ ALL := mr0 (List.mem_of_getElem? (i := 50) rfl) rfl
theorem q223 : Cond.code yX1_addWords prog_4_method_2_code 3 (Option.none : Option Jvm.ClassFile.FieldType) ∈ ALL := mr0 (List.mem_of_getElem? (i := 51) rfl) rfl
theorem q224 : Cond.methodLink "ControlText$Names" 42 ⟨"java/lang/String", "length", "()I"⟩ ∈ ALL := mr0 (List.mem_of_getElem? (i := 52) rfl) rfl
theorem q225 : Cond.instanceMethod ⟨"java/lang/String", "length", "()I"⟩ ∈ ALL := mr0 (List.mem_of_getElem? (i := 53) rfl) rfl
theorem q226 : Cond.selects "java/lang/String" ⟨"java/lang/String", "length", "()I"⟩ ⟨"java/lang/String", "length", "()I"⟩ ∈ ALL := mr0 (List.mem_of_getElem? (i := 54) rfl) rfl
theorem q227 : Cond.code ⟨"java/lang/String", "length", "()I"⟩ prog_14_method_54_code 1 (Option.some Jvm.ClassFile.FieldType.int) ∈ ALL := mr0 (List.mem_of_getElem? (i := 55) rfl) rfl
theorem q228 : Cond.methodLink "java/lang/String" 335 ⟨"java/lang/String", "coder", "()B"⟩ ∈ ALL := mr0 (List.mem_of_getElem? (i := 56) rfl) rfl
theorem q229 : Cond.instanceMethod ⟨"java/lang/String", "coder", "()B"⟩ ∈ ALL := mr0 (List.mem_of_getElem? (i := 57) rfl) rfl
theorem q230 : Cond.selects "java/lang/String" ⟨"java/lang/String", "coder", "()B"⟩ ⟨"java/lang/String", "coder", "()B"⟩ ∈ ALL := mr0 (List.mem_of_getElem? (i := 58) rfl) rfl
theorem q231 : Cond.code ⟨"java/lang/String", "coder", "()B"⟩ prog_14_method_152_code 1 (Option.some Jvm.ClassFile.FieldType.byte) ∈ ALL := mr0 (List.mem_of_getElem? (i := 59) rfl) rfl
theorem q232 : Cond.fieldLink "java/lang/String" 38 "java/lang/String" "COMPACT_STRINGS" "Z" ∈ ALL := mr0 (List.mem_of_getElem? (i := 60) rfl) rfl
theorem q234 : Cond.methodLink "ControlText$Names" 48 ⟨"java/lang/String", "charAt", "(I)C"⟩ ∈ ALL := mr0 (List.mem_of_getElem? (i := 62) rfl) rfl
theorem q235 : Cond.instanceMethod ⟨"java/lang/String", "charAt", "(I)C"⟩ ∈ ALL := mr0 (List.mem_of_getElem? (i := 63) rfl) rfl
theorem q236 : Cond.selects "java/lang/String" ⟨"java/lang/String", "charAt", "(I)C"⟩ ⟨"java/lang/String", "charAt", "(I)C"⟩ ∈ ALL := mr0 (List.mem_of_getElem? (i := 64) rfl) rfl
theorem q237 : Cond.code ⟨"java/lang/String", "charAt", "(I)C"⟩ prog_14_method_56_code 2 (Option.some Jvm.ClassFile.FieldType.char) ∈ ALL := mr0 (List.mem_of_getElem? (i := 65) rfl) rfl
theorem q238 : Cond.methodLink "java/lang/String" 492 ⟨"java/lang/String", "isLatin1", "()Z"⟩ ∈ ALL := mr0 (List.mem_of_getElem? (i := 66) rfl) rfl
theorem q239 : Cond.instanceMethod ⟨"java/lang/String", "isLatin1", "()Z"⟩ ∈ ALL := mr0 (List.mem_of_getElem? (i := 67) rfl) rfl
theorem q240 : Cond.selects "java/lang/String" ⟨"java/lang/String", "isLatin1", "()Z"⟩ ⟨"java/lang/String", "isLatin1", "()Z"⟩ ∈ ALL := mr0 (List.mem_of_getElem? (i := 68) rfl) rfl
theorem q241 : Cond.code ⟨"java/lang/String", "isLatin1", "()Z"⟩ prog_14_method_154_code 1 (Option.some Jvm.ClassFile.FieldType.boolean) ∈ ALL := mr0 (List.mem_of_getElem? (i := 69) rfl) rfl
theorem q242 : Cond.methodLink "java/lang/String" 495 ⟨"java/lang/StringLatin1", "charAt", "([BI)C"⟩ ∈ ALL := mr0 (List.mem_of_getElem? (i := 70) rfl) rfl
theorem q243 : Cond.static ⟨"java/lang/StringLatin1", "charAt", "([BI)C"⟩ ∈ ALL := mr0 (List.mem_of_getElem? (i := 71) rfl) rfl
theorem q244 : Cond.code ⟨"java/lang/StringLatin1", "charAt", "([BI)C"⟩ prog_15_method_2_code 2 (Option.some Jvm.ClassFile.FieldType.char) ∈ ALL := mr0 (List.mem_of_getElem? (i := 72) rfl) rfl
theorem q245 : Cond.methodLink "java/lang/StringLatin1" 9 ⟨"java/lang/String", "checkIndex", "(II)V"⟩ ∈ ALL := mr0 (List.mem_of_getElem? (i := 73) rfl) rfl
theorem q246 : Cond.static ⟨"java/lang/String", "checkIndex", "(II)V"⟩ ∈ ALL := mr0 (List.mem_of_getElem? (i := 74) rfl) rfl
theorem q247 : Cond.code ⟨"java/lang/String", "checkIndex", "(II)V"⟩ prog_14_method_155_code 2 (Option.none : Option Jvm.ClassFile.FieldType) ∈ ALL := mr0 (List.mem_of_getElem? (i := 75) rfl) rfl
theorem q248 : Cond.fieldLink "java/lang/String" 1053 "jdk/internal/util/Preconditions" "SIOOBE_FORMATTER" "Ljava/util/function/BiFunction;" ∈ ALL := mr0 (List.mem_of_getElem? (i := 76) rfl) rfl
theorem q250 : Cond.methodLink "java/lang/String" 1059 ⟨"jdk/internal/util/Preconditions", "checkIndex", "(IILjava/util/function/BiFunction;)I"⟩ ∈ ALL := mr0 (List.mem_of_getElem? (i := 78) rfl) rfl
theorem q251 : Cond.static ⟨"jdk/internal/util/Preconditions", "checkIndex", "(IILjava/util/function/BiFunction;)I"⟩ ∈ ALL := mr0 (List.mem_of_getElem? (i := 79) rfl) rfl
theorem q252 : Cond.code ⟨"jdk/internal/util/Preconditions", "checkIndex", "(IILjava/util/function/BiFunction;)I"⟩ prog_18_method_11_code 3 (Option.some Jvm.ClassFile.FieldType.int) ∈ ALL := mr0 (List.mem_of_getElem? (i := 80) rfl) rfl
theorem q253 : Cond.methodLink "java/lang/String" 498 ⟨"java/lang/StringUTF16", "charAt", "([BI)C"⟩ ∈ ALL := mr0 (List.mem_of_getElem? (i := 81) rfl) rfl
theorem q254 : Cond.static ⟨"java/lang/StringUTF16", "charAt", "([BI)C"⟩ ∈ ALL := mr0 (List.mem_of_getElem? (i := 82) rfl) rfl
theorem q255 : Cond.code ⟨"java/lang/StringUTF16", "charAt", "([BI)C"⟩ prog_16_method_83_code 2 (Option.some Jvm.ClassFile.FieldType.char) ∈ ALL := mr0 (List.mem_of_getElem? (i := 83) rfl) rfl
theorem q256 : Cond.methodLink "java/lang/StringUTF16" 67 ⟨"java/lang/StringUTF16", "checkIndex", "(I[B)V"⟩ ∈ ALL := mr0 (List.mem_of_getElem? (i := 84) rfl) rfl
theorem q257 : Cond.static ⟨"java/lang/StringUTF16", "checkIndex", "(I[B)V"⟩ ∈ ALL := mr0 (List.mem_of_getElem? (i := 85) rfl) rfl
theorem q258 : Cond.code ⟨"java/lang/StringUTF16", "checkIndex", "(I[B)V"⟩ prog_16_method_91_code 2 (Option.none : Option Jvm.ClassFile.FieldType) ∈ ALL := mr0 (List.mem_of_getElem? (i := 86) rfl) rfl
theorem q259 : Cond.methodLink "java/lang/StringUTF16" 48 ⟨"java/lang/StringUTF16", "length", "([B)I"⟩ ∈ ALL := mr0 (List.mem_of_getElem? (i := 87) rfl) rfl
theorem q260 : Cond.static ⟨"java/lang/StringUTF16", "length", "([B)I"⟩ ∈ ALL := mr0 (List.mem_of_getElem? (i := 88) rfl) rfl
theorem q261 : Cond.code ⟨"java/lang/StringUTF16", "length", "([B)I"⟩ prog_16_method_6_code 1 (Option.some Jvm.ClassFile.FieldType.int) ∈ ALL := mr0 (List.mem_of_getElem? (i := 89) rfl) rfl
theorem q262 : Cond.methodLink "java/lang/StringUTF16" 414 ⟨"java/lang/String", "checkIndex", "(II)V"⟩ ∈ ALL := mr0 (List.mem_of_getElem? (i := 90) rfl) rfl
theorem q263 : Cond.methodLink "java/lang/StringUTF16" 71 ⟨"java/lang/StringUTF16", "getChar", "([BI)C"⟩ ∈ ALL := mr0 (List.mem_of_getElem? (i := 91) rfl) rfl
theorem q264 : Cond.static ⟨"java/lang/StringUTF16", "getChar", "([BI)C"⟩ ∈ ALL := mr0 (List.mem_of_getElem? (i := 92) rfl) rfl
theorem q265 : Cond.code ⟨"java/lang/StringUTF16", "getChar", "([BI)C"⟩ prog_16_method_5_code 2 (Option.some Jvm.ClassFile.FieldType.char) ∈ ALL := mr0 (List.mem_of_getElem? (i := 93) rfl) rfl
theorem q266 : Cond.fieldLink "java/lang/StringUTF16" 44 "java/lang/StringUTF16" "$assertionsDisabled" "Z" ∈ ALL := mr0 (List.mem_of_getElem? (i := 94) rfl) rfl
theorem q268 : Cond.fieldLink "java/lang/StringUTF16" 59 "java/lang/StringUTF16" "HI_BYTE_SHIFT" "I" ∈ ALL := mr0 (List.mem_of_getElem? (i := 96) rfl) rfl
theorem q270 : Cond.fieldLink "java/lang/StringUTF16" 63 "java/lang/StringUTF16" "LO_BYTE_SHIFT" "I" ∈ ALL := mr0 (List.mem_of_getElem? (i := 98) rfl) rfl
theorem q272 : Cond.methodLink "ControlText$Names" 52 yX1_number ∈ ALL := mr0 (List.mem_of_getElem? (i := 100) rfl) rfl
theorem q273 : Cond.instanceMethod yX1_number ∈ ALL := mr0 (List.mem_of_getElem? (i := 101) rfl) rfl
theorem q274 : Cond.selects "ControlText$Names" yX1_number yX1_number ∈ ALL := mr0 (List.mem_of_getElem? (i := 102) rfl) rfl
theorem q275 : Cond.code yX1_number prog_4_method_5_code 4 (Option.some Jvm.ClassFile.FieldType.int) ∈ ALL := mr0 (List.mem_of_getElem? (i := 103) rfl) rfl
theorem q276 : Cond.methodLink "ControlText$Names" 70 yX1_firstSlot ∈ ALL := mr0 (List.mem_of_getElem? (i := 104) rfl) rfl
theorem q278 : Cond.instanceMethod yX1_firstSlot ∈ ALL := mr0 (List.mem_of_getElem? (i := 106) rfl) rfl
theorem q279 : Cond.code yX1_firstSlot prog_4_method_6_code 3 (Option.some Jvm.ClassFile.FieldType.int) ∈ ALL := mr0 (List.mem_of_getElem? (i := 107) rfl) rfl
theorem q280 : Cond.methodLink "ControlText$Names" 80 yX1_startOf ∈ ALL := mr0 (List.mem_of_getElem? (i := 108) rfl) rfl
theorem q282 : Cond.instanceMethod yX1_startOf ∈ ALL := mr0 (List.mem_of_getElem? (i := 110) rfl) rfl
theorem q283 : Cond.code yX1_startOf prog_4_method_9_code 2 (Option.some Jvm.ClassFile.FieldType.int) ∈ ALL := mr0 (List.mem_of_getElem? (i := 111) rfl) rfl
theorem q284 : Cond.methodLink "ControlText$Names" 73 yX1_keep ∈ ALL := mr0 (List.mem_of_getElem? (i := 112) rfl) rfl
theorem q286 : Cond.instanceMethod yX1_keep ∈ ALL := mr0 (List.mem_of_getElem? (i := 114) rfl) rfl
theorem q287 : Cond.code yX1_keep prog_4_method_7_code 3 (Option.some Jvm.ClassFile.FieldType.int) ∈ ALL := mr0 (List.mem_of_getElem? (i := 115) rfl) rfl
theorem q288 : Cond.methodLink "ControlText$Names" 76 yX1_isAddedLast ∈ ALL := mr0 (List.mem_of_getElem? (i := 116) rfl) rfl
theorem q290 : Cond.instanceMethod yX1_isAddedLast ∈ ALL := mr0 (List.mem_of_getElem? (i := 118) rfl) rfl
theorem q291 : Cond.code yX1_isAddedLast prog_4_method_8_code 6 (Option.some Jvm.ClassFile.FieldType.boolean) ∈ ALL := mr0 (List.mem_of_getElem? (i := 119) rfl) rfl
theorem q292 : Cond.methodLink "ControlText$Names" 55 yX1_addLetter ∈ ALL := mr0 (List.mem_of_getElem? (i := 120) rfl) rfl
theorem q293 : Cond.instanceMethod yX1_addLetter ∈ ALL := mr0 (List.mem_of_getElem? (i := 121) rfl) rfl
theorem q294 : Cond.selects "ControlText$Names" yX1_addLetter yX1_addLetter ∈ ALL := mr0 (List.mem_of_getElem? (i := 122) rfl) rfl
theorem q295 : Cond.code yX1_addLetter prog_4_method_4_code 2 (Option.none : Option Jvm.ClassFile.FieldType) ∈ ALL := mr0 (List.mem_of_getElem? (i := 123) rfl) rfl
theorem q297 : Cond.static yX6_great ∈ ALL := mr0 (List.mem_of_getElem? (i := 125) rfl) rfl
theorem q298 : Cond.code yX6_great prog_1_method_16_code 1 (Option.some Jvm.ClassFile.FieldType.int) ∈ ALL := mr0 (List.mem_of_getElem? (i := 126) rfl) rfl
theorem q304 : Cond.fieldLink "ControlText$Names" 11 "ControlText$Names" "letters" "[I" ∈ ALL := mr0 (List.mem_of_getElem? (i := 132) rfl) rfl
theorem q305 : Cond.fieldLink "ControlText$Names" 17 "ControlText$Names" "starts" "[I" ∈ ALL := mr0 (List.mem_of_getElem? (i := 133) rfl) rfl
theorem q306 : Cond.fieldLink "ControlText$Names" 20 "ControlText$Names" "slotOf" "[I" ∈ ALL := mr0 (List.mem_of_getElem? (i := 134) rfl) rfl
theorem q307 : Cond.fieldLink "ControlText$Names" 23 "ControlText$Names" "slots" "[I" ∈ ALL := mr0 (List.mem_of_getElem? (i := 135) rfl) rfl
theorem q308 : Cond.fieldLink "ControlText$Names" 59 "ControlText$Names" "size" "I" ∈ ALL := mr0 (List.mem_of_getElem? (i := 136) rfl) rfl
theorem q310 : Cond.fieldLink "ControlText$Names" 63 "ControlText$Names" "used" "I" ∈ ALL := mr0 (List.mem_of_getElem? (i := 138) rfl) rfl
theorem q311 : Cond.laysFinal "ControlText$Names" "ControlText$Names" "letters" "[I" ∈ ALL := mr0 (List.mem_of_getElem? (i := 139) rfl) rfl
theorem q313 : Cond.laysFinal "ControlText$Names" "ControlText$Names" "starts" "[I" ∈ ALL := mr0 (List.mem_of_getElem? (i := 141) rfl) rfl
theorem q315 : Cond.laysFinal "ControlText$Names" "ControlText$Names" "slotOf" "[I" ∈ ALL := mr0 (List.mem_of_getElem? (i := 143) rfl) rfl
theorem q317 : Cond.laysFinal "ControlText$Names" "ControlText$Names" "slots" "[I" ∈ ALL := mr0 (List.mem_of_getElem? (i := 145) rfl) rfl
theorem q319 : Cond.lays "ControlText$Names" "ControlText$Names" "size" "I" ∈ ALL := mr0 (List.mem_of_getElem? (i := 147) rfl) rfl
theorem q321 : Cond.lays "ControlText$Names" "ControlText$Names" "used" "I" ∈ ALL := mr0 (List.mem_of_getElem? (i := 149) rfl) rfl
theorem q324 : Cond.arrayClass Jvm.ClassFile.FieldType.byte ∈ ALL := mr0 (List.mem_of_getElem? (i := 152) rfl) rfl
theorem q325 : Cond.classLink "ControlText" 28 "ControlText$Tokens" ∈ ALL := mr0 (List.mem_of_getElem? (i := 153) rfl) rfl
theorem q326 : Cond.instantiable "ControlText$Tokens" 7 ∈ ALL := mr0 (List.mem_of_getElem? (i := 154) rfl) rfl
theorem q327 : Cond.methodLink "ControlText" 30 yX2_init ∈ ALL := mr0 (List.mem_of_getElem? (i := 155) rfl) rfl
theorem q328 : Cond.instanceMethod yX2_init ∈ ALL := mr0 (List.mem_of_getElem? (i := 156) rfl) rfl
theorem q329 : Cond.code yX2_init prog_7_method_1_code 3 (Option.none : Option Jvm.ClassFile.FieldType) ∈ ALL := mr0 (List.mem_of_getElem? (i := 157) rfl) rfl
theorem q330 : Cond.methodLink "ControlText$Tokens" 3 ⟨"java/lang/Object", "<init>", "()V"⟩ ∈ ALL := mr0 (List.mem_of_getElem? (i := 158) rfl) rfl
theorem q331 : Cond.fieldLink "ControlText$Tokens" 21 "ControlText$Tokens" "text" "LControlText$Bytes;" ∈ ALL := mr0 (List.mem_of_getElem? (i := 159) rfl) rfl
theorem q332 : Cond.fieldLink "ControlText$Tokens" 25 "ControlText$Tokens" "names" "LControlText$Names;" ∈ ALL := mr0 (List.mem_of_getElem? (i := 160) rfl) rfl
theorem q333 : Cond.fieldLink "ControlText$Tokens" 11 "ControlText$Tokens" "kinds" "[I" ∈ ALL := mr0 (List.mem_of_getElem? (i := 161) rfl) rfl
theorem q335 : Cond.fieldLink "ControlText$Tokens" 15 "ControlText$Tokens" "places" "[I" ∈ ALL := mr0 (List.mem_of_getElem? (i := 163) rfl) rfl
theorem q337 : Cond.fieldLink "ControlText$Tokens" 18 "ControlText$Tokens" "values" "[I" ∈ ALL := mr0 (List.mem_of_getElem? (i := 165) rfl) rfl
theorem q339 : Cond.fieldLink "ControlText$Tokens" 29 "ControlText$Tokens" "size" "I" ∈ ALL := mr0 (List.mem_of_getElem? (i := 167) rfl) rfl
theorem q341 : Cond.fieldLink "ControlText$Tokens" 38 "ControlText$Tokens" "at" "I" ∈ ALL := mr0 (List.mem_of_getElem? (i := 169) rfl) rfl
theorem q342 : Cond.laysFinal "ControlText$Tokens" "ControlText$Tokens" "text" "LControlText$Bytes;" ∈ ALL := mr0 (List.mem_of_getElem? (i := 170) rfl) rfl
theorem q344 : Cond.laysFinal "ControlText$Tokens" "ControlText$Tokens" "names" "LControlText$Names;" ∈ ALL := mr0 (List.mem_of_getElem? (i := 172) rfl) rfl
theorem q346 : Cond.laysFinal "ControlText$Tokens" "ControlText$Tokens" "kinds" "[I" ∈ ALL := mr0 (List.mem_of_getElem? (i := 174) rfl) rfl
theorem q348 : Cond.laysFinal "ControlText$Tokens" "ControlText$Tokens" "places" "[I" ∈ ALL := mr0 (List.mem_of_getElem? (i := 176) rfl) rfl
theorem q350 : Cond.laysFinal "ControlText$Tokens" "ControlText$Tokens" "values" "[I" ∈ ALL := mr0 (List.mem_of_getElem? (i := 178) rfl) rfl
theorem q352 : Cond.lays "ControlText$Tokens" "ControlText$Tokens" "size" "I" ∈ ALL := mr0 (List.mem_of_getElem? (i := 180) rfl) rfl
theorem q354 : Cond.lays "ControlText$Tokens" "ControlText$Tokens" "at" "I" ∈ ALL := mr0 (List.mem_of_getElem? (i := 182) rfl) rfl
theorem q357 : Cond.classLink "ControlText" 37 "ControlText$Tree" ∈ ALL := mr0 (List.mem_of_getElem? (i := 185) rfl) rfl
theorem q358 : Cond.instantiable "ControlText$Tree" 8 ∈ ALL := mr0 (List.mem_of_getElem? (i := 186) rfl) rfl
theorem q360 : Cond.instanceMethod yX3_init ∈ ALL := mr0 (List.mem_of_getElem? (i := 188) rfl) rfl
theorem q361 : Cond.code yX3_init prog_8_method_1_code 1 (Option.none : Option Jvm.ClassFile.FieldType) ∈ ALL := mr0 (List.mem_of_getElem? (i := 189) rfl) rfl
theorem q362 : Cond.methodLink "ControlText$Tree" 3 ⟨"java/lang/Object", "<init>", "()V"⟩ ∈ ALL := mr0 (List.mem_of_getElem? (i := 190) rfl) rfl
theorem q363 : Cond.fieldLink "ControlText$Tree" 9 "ControlText$Tree" "kinds" "[I" ∈ ALL := mr0 (List.mem_of_getElem? (i := 191) rfl) rfl
theorem q364 : Cond.fieldLink "ControlText$Tree" 15 "ControlText$Tree" "places" "[I" ∈ ALL := mr0 (List.mem_of_getElem? (i := 192) rfl) rfl
theorem q365 : Cond.fieldLink "ControlText$Tree" 18 "ControlText$Tree" "values" "[I" ∈ ALL := mr0 (List.mem_of_getElem? (i := 193) rfl) rfl
theorem q366 : Cond.fieldLink "ControlText$Tree" 21 "ControlText$Tree" "children" "[I" ∈ ALL := mr0 (List.mem_of_getElem? (i := 194) rfl) rfl
theorem q367 : Cond.fieldLink "ControlText$Tree" 24 "ControlText$Tree" "parents" "[I" ∈ ALL := mr0 (List.mem_of_getElem? (i := 195) rfl) rfl
theorem q368 : Cond.fieldLink "ControlText$Tree" 27 "ControlText$Tree" "ranks" "[I" ∈ ALL := mr0 (List.mem_of_getElem? (i := 196) rfl) rfl
theorem q369 : Cond.fieldLink "ControlText$Tree" 30 "ControlText$Tree" "met" "[I" ∈ ALL := mr0 (List.mem_of_getElem? (i := 197) rfl) rfl
theorem q370 : Cond.fieldLink "ControlText$Tree" 33 "ControlText$Tree" "size" "I" ∈ ALL := mr0 (List.mem_of_getElem? (i := 198) rfl) rfl
theorem q374 : Cond.laysFinal "ControlText$Tree" "ControlText$Tree" "kinds" "[I" ∈ ALL := mr0 (List.mem_of_getElem? (i := 202) rfl) rfl
theorem q376 : Cond.laysFinal "ControlText$Tree" "ControlText$Tree" "places" "[I" ∈ ALL := mr0 (List.mem_of_getElem? (i := 204) rfl) rfl
theorem q378 : Cond.laysFinal "ControlText$Tree" "ControlText$Tree" "values" "[I" ∈ ALL := mr0 (List.mem_of_getElem? (i := 206) rfl) rfl
theorem q380 : Cond.laysFinal "ControlText$Tree" "ControlText$Tree" "children" "[I" ∈ ALL := mr0 (List.mem_of_getElem? (i := 208) rfl) rfl
theorem q382 : Cond.laysFinal "ControlText$Tree" "ControlText$Tree" "parents" "[I" ∈ ALL := mr0 (List.mem_of_getElem? (i := 210) rfl) rfl
theorem q384 : Cond.laysFinal "ControlText$Tree" "ControlText$Tree" "ranks" "[I" ∈ ALL := mr0 (List.mem_of_getElem? (i := 212) rfl) rfl
theorem q386 : Cond.laysFinal "ControlText$Tree" "ControlText$Tree" "met" "[I" ∈ ALL := mr0 (List.mem_of_getElem? (i := 214) rfl) rfl
theorem q388 : Cond.lays "ControlText$Tree" "ControlText$Tree" "size" "I" ∈ ALL := mr0 (List.mem_of_getElem? (i := 216) rfl) rfl
theorem q391 : Cond.classLink "ControlText" 44 "ControlText$Parser" ∈ ALL := mr0 (List.mem_of_getElem? (i := 219) rfl) rfl
theorem q392 : Cond.instantiable "ControlText$Parser" 12 ∈ ALL := mr0 (List.mem_of_getElem? (i := 220) rfl) rfl
theorem q393 : Cond.methodLink "ControlText" 46 yX4_init ∈ ALL := mr0 (List.mem_of_getElem? (i := 221) rfl) rfl
theorem q394 : Cond.instanceMethod yX4_init ∈ ALL := mr0 (List.mem_of_getElem? (i := 222) rfl) rfl
theorem q395 : Cond.code yX4_init prog_5_method_1_code 3 (Option.none : Option Jvm.ClassFile.FieldType) ∈ ALL := mr0 (List.mem_of_getElem? (i := 223) rfl) rfl
theorem q396 : Cond.methodLink "ControlText$Parser" 3 ⟨"java/lang/Object", "<init>", "()V"⟩ ∈ ALL := mr0 (List.mem_of_getElem? (i := 224) rfl) rfl
theorem q397 : Cond.fieldLink "ControlText$Parser" 15 "ControlText$Parser" "tokens" "LControlText$Tokens;" ∈ ALL := mr0 (List.mem_of_getElem? (i := 225) rfl) rfl
theorem q398 : Cond.fieldLink "ControlText$Parser" 19 "ControlText$Parser" "tree" "LControlText$Tree;" ∈ ALL := mr0 (List.mem_of_getElem? (i := 226) rfl) rfl
theorem q399 : Cond.fieldLink "ControlText$Parser" 23 "ControlText$Parser" "at" "I" ∈ ALL := mr0 (List.mem_of_getElem? (i := 227) rfl) rfl
theorem q400 : Cond.fieldLink "ControlText$Parser" 26 "ControlText$Parser" "kind" "I" ∈ ALL := mr0 (List.mem_of_getElem? (i := 228) rfl) rfl
theorem q401 : Cond.fieldLink "ControlText$Parser" 92 "ControlText$Parser" "place" "I" ∈ ALL := mr0 (List.mem_of_getElem? (i := 229) rfl) rfl
theorem q402 : Cond.fieldLink "ControlText$Parser" 110 "ControlText$Parser" "value" "I" ∈ ALL := mr0 (List.mem_of_getElem? (i := 230) rfl) rfl
theorem q403 : Cond.fieldLink "ControlText$Parser" 94 "ControlText$Parser" "placeBefore" "I" ∈ ALL := mr0 (List.mem_of_getElem? (i := 231) rfl) rfl
theorem q404 : Cond.fieldLink "ControlText$Parser" 29 "ControlText$Parser" "signs" "I" ∈ ALL := mr0 (List.mem_of_getElem? (i := 232) rfl) rfl
theorem q405 : Cond.fieldLink "ControlText$Parser" 32 "ControlText$Parser" "open" "I" ∈ ALL := mr0 (List.mem_of_getElem? (i := 233) rfl) rfl
theorem q406 : Cond.fieldLink "ControlText$Parser" 35 "ControlText$Parser" "tooDeep" "Z" ∈ ALL := mr0 (List.mem_of_getElem? (i := 234) rfl) rfl
theorem q407 : Cond.fieldLink "ControlText$Parser" 83 "ControlText$Parser" "fault" "I" ∈ ALL := mr0 (List.mem_of_getElem? (i := 235) rfl) rfl
theorem q409 : Cond.fieldLink "ControlText$Parser" 9 "ControlText$Parser" "faultPlace" "I" ∈ ALL := mr0 (List.mem_of_getElem? (i := 237) rfl) rfl
theorem q411 : Cond.laysFinal "ControlText$Parser" "ControlText$Parser" "tokens" "LControlText$Tokens;" ∈ ALL := mr0 (List.mem_of_getElem? (i := 239) rfl) rfl
theorem q413 : Cond.laysFinal "ControlText$Parser" "ControlText$Parser" "tree" "LControlText$Tree;" ∈ ALL := mr1 (List.mem_of_getElem? (i := 1) rfl) rfl
theorem q415 : Cond.lays "ControlText$Parser" "ControlText$Parser" "at" "I" ∈ ALL := mr1 (List.mem_of_getElem? (i := 3) rfl) rfl
theorem q417 : Cond.lays "ControlText$Parser" "ControlText$Parser" "kind" "I" ∈ ALL := mr1 (List.mem_of_getElem? (i := 5) rfl) rfl
theorem q419 : Cond.lays "ControlText$Parser" "ControlText$Parser" "place" "I" ∈ ALL := mr1 (List.mem_of_getElem? (i := 7) rfl) rfl
theorem q421 : Cond.lays "ControlText$Parser" "ControlText$Parser" "value" "I" ∈ ALL := mr1 (List.mem_of_getElem? (i := 9) rfl) rfl
theorem q423 : Cond.lays "ControlText$Parser" "ControlText$Parser" "placeBefore" "I" ∈ ALL := mr1 (List.mem_of_getElem? (i := 11) rfl) rfl
theorem q425 : Cond.lays "ControlText$Parser" "ControlText$Parser" "signs" "I" ∈ ALL := mr1 (List.mem_of_getElem? (i := 13) rfl) rfl
theorem q427 : Cond.lays "ControlText$Parser" "ControlText$Parser" "open" "I" ∈ ALL := mr1 (List.mem_of_getElem? (i := 15) rfl) rfl
theorem q429 : Cond.lays "ControlText$Parser" "ControlText$Parser" "tooDeep" "Z" ∈ ALL := mr1 (List.mem_of_getElem? (i := 17) rfl) rfl
theorem q431 : Cond.lays "ControlText$Parser" "ControlText$Parser" "fault" "I" ∈ ALL := mr1 (List.mem_of_getElem? (i := 19) rfl) rfl
theorem q433 : Cond.lays "ControlText$Parser" "ControlText$Parser" "faultPlace" "I" ∈ ALL := mr1 (List.mem_of_getElem? (i := 21) rfl) rfl
theorem q436 : Cond.classLink "ControlText" 53 "ControlText$Writer" ∈ ALL := mr1 (List.mem_of_getElem? (i := 24) rfl) rfl
theorem q437 : Cond.instantiable "ControlText$Writer" 3 ∈ ALL := mr1 (List.mem_of_getElem? (i := 25) rfl) rfl
theorem q438 : Cond.methodLink "ControlText" 55 yX5_init ∈ ALL := mr1 (List.mem_of_getElem? (i := 26) rfl) rfl
theorem q439 : Cond.instanceMethod yX5_init ∈ ALL := mr1 (List.mem_of_getElem? (i := 27) rfl) rfl
theorem q440 : Cond.code yX5_init prog_10_method_1_code 4 (Option.none : Option Jvm.ClassFile.FieldType) ∈ ALL := mr1 (List.mem_of_getElem? (i := 28) rfl) rfl
theorem q441 : Cond.methodLink "ControlText$Writer" 3 ⟨"java/lang/Object", "<init>", "()V"⟩ ∈ ALL := mr1 (List.mem_of_getElem? (i := 29) rfl) rfl
theorem q442 : Cond.fieldLink "ControlText$Writer" 9 "ControlText$Writer" "tree" "LControlText$Tree;" ∈ ALL := mr1 (List.mem_of_getElem? (i := 30) rfl) rfl
theorem q443 : Cond.fieldLink "ControlText$Writer" 15 "ControlText$Writer" "names" "LControlText$Names;" ∈ ALL := mr1 (List.mem_of_getElem? (i := 31) rfl) rfl
theorem q444 : Cond.fieldLink "ControlText$Writer" 19 "ControlText$Writer" "out" "LControlText$Bytes;" ∈ ALL := mr1 (List.mem_of_getElem? (i := 32) rfl) rfl
theorem q445 : Cond.laysFinal "ControlText$Writer" "ControlText$Writer" "tree" "LControlText$Tree;" ∈ ALL := mr1 (List.mem_of_getElem? (i := 33) rfl) rfl
theorem q447 : Cond.laysFinal "ControlText$Writer" "ControlText$Writer" "names" "LControlText$Names;" ∈ ALL := mr1 (List.mem_of_getElem? (i := 35) rfl) rfl
theorem q449 : Cond.laysFinal "ControlText$Writer" "ControlText$Writer" "out" "LControlText$Bytes;" ∈ ALL := mr1 (List.mem_of_getElem? (i := 37) rfl) rfl
theorem q452 : Cond.fieldLink "ControlText" 14 "ControlText" "text" "LControlText$Bytes;" ∈ ALL := mr1 (List.mem_of_getElem? (i := 40) rfl) rfl
theorem q453 : Cond.fieldLink "ControlText" 18 "ControlText" "written" "LControlText$Bytes;" ∈ ALL := mr1 (List.mem_of_getElem? (i := 41) rfl) rfl
theorem q454 : Cond.fieldLink "ControlText" 24 "ControlText" "names" "LControlText$Names;" ∈ ALL := mr1 (List.mem_of_getElem? (i := 42) rfl) rfl
theorem q455 : Cond.fieldLink "ControlText" 33 "ControlText" "tokens" "LControlText$Tokens;" ∈ ALL := mr1 (List.mem_of_getElem? (i := 43) rfl) rfl
theorem q456 : Cond.fieldLink "ControlText" 40 "ControlText" "tree" "LControlText$Tree;" ∈ ALL := mr1 (List.mem_of_getElem? (i := 44) rfl) rfl
theorem q457 : Cond.fieldLink "ControlText" 49 "ControlText" "parser" "LControlText$Parser;" ∈ ALL := mr1 (List.mem_of_getElem? (i := 45) rfl) rfl
theorem q458 : Cond.fieldLink "ControlText" 58 "ControlText" "writer" "LControlText$Writer;" ∈ ALL := mr1 (List.mem_of_getElem? (i := 46) rfl) rfl
theorem q459 : Cond.laysFinal "ControlText" "ControlText" "text" "LControlText$Bytes;" ∈ ALL := mr1 (List.mem_of_getElem? (i := 47) rfl) rfl
theorem q461 : Cond.laysFinal "ControlText" "ControlText" "written" "LControlText$Bytes;" ∈ ALL := mr1 (List.mem_of_getElem? (i := 49) rfl) rfl
theorem q463 : Cond.laysFinal "ControlText" "ControlText" "names" "LControlText$Names;" ∈ ALL := mr1 (List.mem_of_getElem? (i := 51) rfl) rfl
theorem q465 : Cond.laysFinal "ControlText" "ControlText" "tokens" "LControlText$Tokens;" ∈ ALL := mr1 (List.mem_of_getElem? (i := 53) rfl) rfl
theorem q467 : Cond.laysFinal "ControlText" "ControlText" "tree" "LControlText$Tree;" ∈ ALL := mr1 (List.mem_of_getElem? (i := 55) rfl) rfl
theorem q469 : Cond.laysFinal "ControlText" "ControlText" "parser" "LControlText$Parser;" ∈ ALL := mr1 (List.mem_of_getElem? (i := 57) rfl) rfl
theorem q471 : Cond.laysFinal "ControlText" "ControlText" "writer" "LControlText$Writer;" ∈ ALL := mr1 (List.mem_of_getElem? (i := 59) rfl) rfl
theorem q474 : Cond.methodLink "ControlTextLaw" 13 yX6_clear ∈ ALL := mr1 (List.mem_of_getElem? (i := 62) rfl) rfl
theorem q475 : Cond.instanceMethod yX6_clear ∈ ALL := mr1 (List.mem_of_getElem? (i := 63) rfl) rfl
theorem q476 : Cond.selects "ControlText" yX6_clear yX6_clear ∈ ALL := mr1 (List.mem_of_getElem? (i := 64) rfl) rfl
theorem q477 : Cond.code yX6_clear prog_1_method_2_code 2 (Option.some Jvm.ClassFile.FieldType.int) ∈ ALL := mr1 (List.mem_of_getElem? (i := 65) rfl) rfl
theorem q478 : Cond.methodLink "ControlText" 66 yX0_cut ∈ ALL := mr1 (List.mem_of_getElem? (i := 66) rfl) rfl
theorem q479 : Cond.instanceMethod yX0_cut ∈ ALL := mr1 (List.mem_of_getElem? (i := 67) rfl) rfl
theorem q480 : Cond.selects "ControlText$Bytes" yX0_cut yX0_cut ∈ ALL := mr1 (List.mem_of_getElem? (i := 68) rfl) rfl
theorem q481 : Cond.code yX0_cut prog_2_method_5_code 2 (Option.none : Option Jvm.ClassFile.FieldType) ∈ ALL := mr1 (List.mem_of_getElem? (i := 69) rfl) rfl
theorem q482 : Cond.methodLink "ControlTextLaw" 18 yX6_feed ∈ ALL := mr1 (List.mem_of_getElem? (i := 70) rfl) rfl
theorem q483 : Cond.instanceMethod yX6_feed ∈ ALL := mr1 (List.mem_of_getElem? (i := 71) rfl) rfl
theorem q484 : Cond.selects "ControlText" yX6_feed yX6_feed ∈ ALL := mr1 (List.mem_of_getElem? (i := 72) rfl) rfl
theorem q485 : Cond.code yX6_feed prog_1_method_3_code 6 (Option.some Jvm.ClassFile.FieldType.int) ∈ ALL := mr1 (List.mem_of_getElem? (i := 73) rfl) rfl
theorem q486 : Cond.methodLink "ControlText" 69 yX6_feedNumber ∈ ALL := mr1 (List.mem_of_getElem? (i := 74) rfl) rfl
theorem q488 : Cond.instanceMethod yX6_feedNumber ∈ ALL := mr1 (List.mem_of_getElem? (i := 76) rfl) rfl
theorem q489 : Cond.code yX6_feedNumber prog_1_method_4_code 3 (Option.none : Option Jvm.ClassFile.FieldType) ∈ ALL := mr1 (List.mem_of_getElem? (i := 77) rfl) rfl
theorem q490 : Cond.methodLink "ControlText" 72 yX0_put ∈ ALL := mr1 (List.mem_of_getElem? (i := 78) rfl) rfl
theorem q491 : Cond.instanceMethod yX0_put ∈ ALL := mr1 (List.mem_of_getElem? (i := 79) rfl) rfl
theorem q492 : Cond.selects "ControlText$Bytes" yX0_put yX0_put ∈ ALL := mr1 (List.mem_of_getElem? (i := 80) rfl) rfl
theorem q493 : Cond.code yX0_put prog_2_method_3_code 2 (Option.none : Option Jvm.ClassFile.FieldType) ∈ ALL := mr1 (List.mem_of_getElem? (i := 81) rfl) rfl
theorem q494 : Cond.methodLink "ControlTextLaw" 23 yX6_end ∈ ALL := mr1 (List.mem_of_getElem? (i := 82) rfl) rfl
theorem q495 : Cond.instanceMethod yX6_end ∈ ALL := mr1 (List.mem_of_getElem? (i := 83) rfl) rfl
theorem q496 : Cond.selects "ControlText" yX6_end yX6_end ∈ ALL := mr1 (List.mem_of_getElem? (i := 84) rfl) rfl
theorem q497 : Cond.code yX6_end prog_1_method_5_code 2 (Option.some Jvm.ClassFile.FieldType.int) ∈ ALL := mr1 (List.mem_of_getElem? (i := 85) rfl) rfl
theorem q498 : Cond.methodLink "ControlTextLaw" 28 yX6_change ∈ ALL := mr1 (List.mem_of_getElem? (i := 86) rfl) rfl
theorem q499 : Cond.instanceMethod yX6_change ∈ ALL := mr1 (List.mem_of_getElem? (i := 87) rfl) rfl
theorem q500 : Cond.selects "ControlText" yX6_change yX6_change ∈ ALL := mr1 (List.mem_of_getElem? (i := 88) rfl) rfl
theorem q501 : Cond.code yX6_change prog_1_method_6_code 3 (Option.some Jvm.ClassFile.FieldType.int) ∈ ALL := mr1 (List.mem_of_getElem? (i := 89) rfl) rfl
theorem q502 : Cond.methodLink "ControlText" 75 yX0_swap ∈ ALL := mr1 (List.mem_of_getElem? (i := 90) rfl) rfl
theorem q503 : Cond.instanceMethod yX0_swap ∈ ALL := mr1 (List.mem_of_getElem? (i := 91) rfl) rfl
theorem q504 : Cond.selects "ControlText$Bytes" yX0_swap yX0_swap ∈ ALL := mr1 (List.mem_of_getElem? (i := 92) rfl) rfl
theorem q505 : Cond.code yX0_swap prog_2_method_4_code 4 (Option.some Jvm.ClassFile.FieldType.int) ∈ ALL := mr1 (List.mem_of_getElem? (i := 93) rfl) rfl
theorem q506 : Cond.methodLink "ControlText$Bytes" 19 yX0_get ∈ ALL := mr1 (List.mem_of_getElem? (i := 94) rfl) rfl
theorem q507 : Cond.instanceMethod yX0_get ∈ ALL := mr1 (List.mem_of_getElem? (i := 95) rfl) rfl
theorem q508 : Cond.selects "ControlText$Bytes" yX0_get yX0_get ∈ ALL := mr1 (List.mem_of_getElem? (i := 96) rfl) rfl
theorem q509 : Cond.code yX0_get prog_2_method_2_code 2 (Option.some Jvm.ClassFile.FieldType.int) ∈ ALL := mr1 (List.mem_of_getElem? (i := 97) rfl) rfl
theorem q510 : Cond.methodLink "ControlTextLaw" 33 yX6_read ∈ ALL := mr1 (List.mem_of_getElem? (i := 98) rfl) rfl
theorem q511 : Cond.instanceMethod yX6_read ∈ ALL := mr1 (List.mem_of_getElem? (i := 99) rfl) rfl
theorem q512 : Cond.selects "ControlText" yX6_read yX6_read ∈ ALL := mr1 (List.mem_of_getElem? (i := 100) rfl) rfl
theorem q513 : Cond.code yX6_read prog_1_method_7_code 1 (Option.some Jvm.ClassFile.FieldType.int) ∈ ALL := mr1 (List.mem_of_getElem? (i := 101) rfl) rfl
theorem q514 : Cond.methodLink "ControlText" 79 yX2_scan ∈ ALL := mr1 (List.mem_of_getElem? (i := 102) rfl) rfl
theorem q515 : Cond.instanceMethod yX2_scan ∈ ALL := mr1 (List.mem_of_getElem? (i := 103) rfl) rfl
theorem q516 : Cond.selects "ControlText$Tokens" yX2_scan yX2_scan ∈ ALL := mr1 (List.mem_of_getElem? (i := 104) rfl) rfl
theorem q517 : Cond.code yX2_scan prog_7_method_5_code 4 (Option.none : Option Jvm.ClassFile.FieldType) ∈ ALL := mr1 (List.mem_of_getElem? (i := 105) rfl) rfl
theorem q518 : Cond.methodLink "ControlText$Tokens" 33 yX1_forget ∈ ALL := mr1 (List.mem_of_getElem? (i := 106) rfl) rfl
theorem q519 : Cond.instanceMethod yX1_forget ∈ ALL := mr1 (List.mem_of_getElem? (i := 107) rfl) rfl
theorem q520 : Cond.selects "ControlText$Names" yX1_forget yX1_forget ∈ ALL := mr1 (List.mem_of_getElem? (i := 108) rfl) rfl
theorem q521 : Cond.code yX1_forget prog_4_method_3_code 3 (Option.none : Option Jvm.ClassFile.FieldType) ∈ ALL := mr1 (List.mem_of_getElem? (i := 109) rfl) rfl
theorem q522 : Cond.methodLink "ControlText$Tokens" 41 yX2_scanToken ∈ ALL := mr1 (List.mem_of_getElem? (i := 110) rfl) rfl
theorem q524 : Cond.instanceMethod yX2_scanToken ∈ ALL := mr1 (List.mem_of_getElem? (i := 112) rfl) rfl
theorem q525 : Cond.code yX2_scanToken prog_7_method_7_code 3 (Option.none : Option Jvm.ClassFile.FieldType) ∈ ALL := mr1 (List.mem_of_getElem? (i := 113) rfl) rfl
theorem q526 : Cond.methodLink "ControlText$Tokens" 48 yX2_skipBlanks ∈ ALL := mr1 (List.mem_of_getElem? (i := 114) rfl) rfl
theorem q528 : Cond.instanceMethod yX2_skipBlanks ∈ ALL := mr1 (List.mem_of_getElem? (i := 116) rfl) rfl
theorem q529 : Cond.code yX2_skipBlanks prog_7_method_8_code 4 (Option.some Jvm.ClassFile.FieldType.boolean) ∈ ALL := mr1 (List.mem_of_getElem? (i := 117) rfl) rfl
theorem q530 : Cond.methodLink "ControlText$Tokens" 52 yX0_get ∈ ALL := mr1 (List.mem_of_getElem? (i := 118) rfl) rfl
theorem q531 : Cond.methodLink "ControlText$Tokens" 86 yX2_endOfComment ∈ ALL := mr1 (List.mem_of_getElem? (i := 119) rfl) rfl
theorem q533 : Cond.instanceMethod yX2_endOfComment ∈ ALL := mr1 (List.mem_of_getElem? (i := 121) rfl) rfl
theorem q534 : Cond.code yX2_endOfComment prog_7_method_9_code 3 (Option.some Jvm.ClassFile.FieldType.int) ∈ ALL := mr1 (List.mem_of_getElem? (i := 122) rfl) rfl
theorem q535 : Cond.methodLink "ControlText$Tokens" 57 yX2_add ∈ ALL := mr1 (List.mem_of_getElem? (i := 123) rfl) rfl
theorem q537 : Cond.instanceMethod yX2_add ∈ ALL := mr1 (List.mem_of_getElem? (i := 125) rfl) rfl
theorem q538 : Cond.code yX2_add prog_7_method_6_code 4 (Option.none : Option Jvm.ClassFile.FieldType) ∈ ALL := mr1 (List.mem_of_getElem? (i := 126) rfl) rfl
theorem q540 : Cond.methodLink "ControlText$Tokens" 64 yX2_scanTime ∈ ALL := mr1 (List.mem_of_getElem? (i := 128) rfl) rfl
theorem q542 : Cond.instanceMethod yX2_scanTime ∈ ALL := mr1 (List.mem_of_getElem? (i := 130) rfl) rfl
theorem q543 : Cond.code yX2_scanTime prog_7_method_12_code 6 (Option.none : Option Jvm.ClassFile.FieldType) ∈ ALL := mr1 (List.mem_of_getElem? (i := 131) rfl) rfl
theorem q544 : Cond.methodLink "ControlText$Tokens" 100 yX2_digits ∈ ALL := mr1 (List.mem_of_getElem? (i := 132) rfl) rfl
theorem q546 : Cond.instanceMethod yX2_digits ∈ ALL := mr1 (List.mem_of_getElem? (i := 134) rfl) rfl
theorem q547 : Cond.code yX2_digits prog_7_method_14_code 7 (Option.some Jvm.ClassFile.FieldType.long) ∈ ALL := mr1 (List.mem_of_getElem? (i := 135) rfl) rfl
theorem q548 : Cond.methodLink "ControlText$Tokens" 120 yX2_digit ∈ ALL := mr1 (List.mem_of_getElem? (i := 136) rfl) rfl
theorem q549 : Cond.static yX2_digit ∈ ALL := mr1 (List.mem_of_getElem? (i := 137) rfl) rfl
theorem q550 : Cond.code yX2_digit prog_7_method_15_code 2 (Option.some Jvm.ClassFile.FieldType.int) ∈ ALL := mr1 (List.mem_of_getElem? (i := 138) rfl) rfl
theorem q552 : Cond.static yX6_isDigit ∈ ALL := mr1 (List.mem_of_getElem? (i := 140) rfl) rfl
theorem q553 : Cond.code yX6_isDigit prog_1_method_14_code 1 (Option.some Jvm.ClassFile.FieldType.boolean) ∈ ALL := mr1 (List.mem_of_getElem? (i := 141) rfl) rfl
theorem q554 : Cond.constantLong "ControlText$Tokens" 123 2147483648 ∈ ALL := mr1 (List.mem_of_getElem? (i := 142) rfl) rfl
theorem q555 : Cond.methodLink "ControlText$Tokens" 125 yX10_min ∈ ALL := mr1 (List.mem_of_getElem? (i := 143) rfl) rfl
theorem q556 : Cond.static yX10_min ∈ ALL := mr1 (List.mem_of_getElem? (i := 144) rfl) rfl
theorem q557 : Cond.code yX10_min prog_13_method_70_code 4 (Option.some Jvm.ClassFile.FieldType.long) ∈ ALL := mr1 (List.mem_of_getElem? (i := 145) rfl) rfl
theorem q558 : Cond.constantLong "ControlText$Tokens" 108 (-1) ∈ ALL := mr1 (List.mem_of_getElem? (i := 146) rfl) rfl
theorem q559 : Cond.methodLink "ControlText$Tokens" 114 yX2_unit ∈ ALL := mr1 (List.mem_of_getElem? (i := 147) rfl) rfl
theorem q561 : Cond.instanceMethod yX2_unit ∈ ALL := mr1 (List.mem_of_getElem? (i := 149) rfl) rfl
theorem q562 : Cond.code yX2_unit prog_7_method_16_code 2 (Option.some Jvm.ClassFile.FieldType.long) ∈ ALL := mr1 (List.mem_of_getElem? (i := 150) rfl) rfl
theorem q563 : Cond.constantLong "ControlText$Tokens" 131 1000 ∈ ALL := mr1 (List.mem_of_getElem? (i := 151) rfl) rfl
theorem q564 : Cond.constantLong "ControlText$Tokens" 133 60000 ∈ ALL := mr1 (List.mem_of_getElem? (i := 152) rfl) rfl
theorem q565 : Cond.constantLong "ControlText$Tokens" 135 3600000 ∈ ALL := mr1 (List.mem_of_getElem? (i := 153) rfl) rfl
theorem q566 : Cond.methodLink "ControlText$Tokens" 110 yX2_addNumber ∈ ALL := mr1 (List.mem_of_getElem? (i := 154) rfl) rfl
theorem q568 : Cond.instanceMethod yX2_addNumber ∈ ALL := mr1 (List.mem_of_getElem? (i := 156) rfl) rfl
theorem q569 : Cond.code yX2_addNumber prog_7_method_13_code 4 (Option.none : Option Jvm.ClassFile.FieldType) ∈ ALL := mr1 (List.mem_of_getElem? (i := 157) rfl) rfl
theorem q570 : Cond.constantLong "ControlText$Tokens" 118 2147483647 ∈ ALL := mr1 (List.mem_of_getElem? (i := 158) rfl) rfl
theorem q572 : Cond.static yX6_isNameByte ∈ ALL := mr1 (List.mem_of_getElem? (i := 160) rfl) rfl
theorem q573 : Cond.code yX6_isNameByte prog_1_method_15_code 1 (Option.some Jvm.ClassFile.FieldType.boolean) ∈ ALL := mr1 (List.mem_of_getElem? (i := 161) rfl) rfl
theorem q574 : Cond.methodLink "ControlText$Tokens" 71 yX2_scanNumber ∈ ALL := mr1 (List.mem_of_getElem? (i := 162) rfl) rfl
theorem q576 : Cond.instanceMethod yX2_scanNumber ∈ ALL := mr1 (List.mem_of_getElem? (i := 164) rfl) rfl
theorem q577 : Cond.code yX2_scanNumber prog_7_method_11_code 4 (Option.none : Option Jvm.ClassFile.FieldType) ∈ ALL := mr1 (List.mem_of_getElem? (i := 165) rfl) rfl
theorem q578 : Cond.constantLong "ControlText$Tokens" 104 16 ∈ ALL := mr1 (List.mem_of_getElem? (i := 166) rfl) rfl
theorem q579 : Cond.constantLong "ControlText$Tokens" 106 2 ∈ ALL := mr1 (List.mem_of_getElem? (i := 167) rfl) rfl
theorem q580 : Cond.methodLink "ControlText$Tokens" 77 yX2_scanName ∈ ALL := mr1 (List.mem_of_getElem? (i := 168) rfl) rfl
theorem q582 : Cond.instanceMethod yX2_scanName ∈ ALL := mr1 (List.mem_of_getElem? (i := 170) rfl) rfl
theorem q583 : Cond.code yX2_scanName prog_7_method_10_code 3 (Option.none : Option Jvm.ClassFile.FieldType) ∈ ALL := mr1 (List.mem_of_getElem? (i := 171) rfl) rfl
theorem q584 : Cond.methodLink "ControlText$Tokens" 90 yX1_addLetter ∈ ALL := mr1 (List.mem_of_getElem? (i := 172) rfl) rfl
theorem q585 : Cond.methodLink "ControlText$Tokens" 94 yX1_number ∈ ALL := mr1 (List.mem_of_getElem? (i := 173) rfl) rfl
theorem q586 : Cond.methodLink "ControlText$Tokens" 80 yX2_scanPlace ∈ ALL := mr1 (List.mem_of_getElem? (i := 174) rfl) rfl
theorem q588 : Cond.instanceMethod yX2_scanPlace ∈ ALL := mr1 (List.mem_of_getElem? (i := 176) rfl) rfl
theorem q589 : Cond.code yX2_scanPlace prog_7_method_17_code 6 (Option.none : Option Jvm.ClassFile.FieldType) ∈ ALL := mr1 (List.mem_of_getElem? (i := 177) rfl) rfl
theorem q590 : Cond.methodLink "ControlText$Tokens" 137 yX2_placeRow ∈ ALL := mr1 (List.mem_of_getElem? (i := 178) rfl) rfl
theorem q591 : Cond.static yX2_placeRow ∈ ALL := mr1 (List.mem_of_getElem? (i := 179) rfl) rfl
theorem q592 : Cond.code yX2_placeRow prog_7_method_18_code 3 (Option.some Jvm.ClassFile.FieldType.int) ∈ ALL := mr1 (List.mem_of_getElem? (i := 180) rfl) rfl
theorem q593 : Cond.methodLink "ControlText$Tokens" 83 yX2_scanSign ∈ ALL := mr1 (List.mem_of_getElem? (i := 181) rfl) rfl
theorem q595 : Cond.instanceMethod yX2_scanSign ∈ ALL := mr1 (List.mem_of_getElem? (i := 183) rfl) rfl
theorem q596 : Cond.code yX2_scanSign prog_7_method_19_code 4 (Option.none : Option Jvm.ClassFile.FieldType) ∈ ALL := mr1 (List.mem_of_getElem? (i := 184) rfl) rfl
theorem q597 : Cond.methodLink "ControlText$Tokens" 141 yX10_max ∈ ALL := mr1 (List.mem_of_getElem? (i := 185) rfl) rfl
theorem q598 : Cond.static yX10_max ∈ ALL := mr1 (List.mem_of_getElem? (i := 186) rfl) rfl
theorem q599 : Cond.code yX10_max prog_13_method_65_code 2 (Option.some Jvm.ClassFile.FieldType.int) ∈ ALL := mr1 (List.mem_of_getElem? (i := 187) rfl) rfl
theorem q600 : Cond.methodLink "ControlText$Tokens" 144 yX2_isSignOfTwo ∈ ALL := mr1 (List.mem_of_getElem? (i := 188) rfl) rfl
theorem q601 : Cond.static yX2_isSignOfTwo ∈ ALL := mr1 (List.mem_of_getElem? (i := 189) rfl) rfl
theorem q602 : Cond.code yX2_isSignOfTwo prog_7_method_21_code 1 (Option.some Jvm.ClassFile.FieldType.boolean) ∈ ALL := mr1 (List.mem_of_getElem? (i := 190) rfl) rfl
theorem q603 : Cond.methodLink "ControlText$Tokens" 147 yX2_isSignOfOne ∈ ALL := mr1 (List.mem_of_getElem? (i := 191) rfl) rfl
theorem q604 : Cond.static yX2_isSignOfOne ∈ ALL := mr1 (List.mem_of_getElem? (i := 192) rfl) rfl
theorem q605 : Cond.code yX2_isSignOfOne prog_7_method_20_code 1 (Option.some Jvm.ClassFile.FieldType.boolean) ∈ ALL := mr1 (List.mem_of_getElem? (i := 193) rfl) rfl
theorem q606 : Cond.methodLink "ControlText$Tokens" 44 yX2_kind ∈ ALL := mr1 (List.mem_of_getElem? (i := 194) rfl) rfl
theorem q607 : Cond.instanceMethod yX2_kind ∈ ALL := mr1 (List.mem_of_getElem? (i := 195) rfl) rfl
theorem q608 : Cond.selects "ControlText$Tokens" yX2_kind yX2_kind ∈ ALL := mr1 (List.mem_of_getElem? (i := 196) rfl) rfl
theorem q609 : Cond.code yX2_kind prog_7_method_2_code 2 (Option.some Jvm.ClassFile.FieldType.int) ∈ ALL := mr1 (List.mem_of_getElem? (i := 197) rfl) rfl
theorem q610 : Cond.methodLink "ControlText" 82 yX4_parse ∈ ALL := mr1 (List.mem_of_getElem? (i := 198) rfl) rfl
theorem q611 : Cond.instanceMethod yX4_parse ∈ ALL := mr1 (List.mem_of_getElem? (i := 199) rfl) rfl
theorem q612 : Cond.selects "ControlText$Parser" yX4_parse yX4_parse ∈ ALL := mr1 (List.mem_of_getElem? (i := 200) rfl) rfl
theorem q613 : Cond.code yX4_parse prog_5_method_2_code 5 (Option.none : Option Jvm.ClassFile.FieldType) ∈ ALL := mr1 (List.mem_of_getElem? (i := 201) rfl) rfl
theorem q614 : Cond.methodLink "ControlText$Parser" 39 yX4_take ∈ ALL := mr1 (List.mem_of_getElem? (i := 202) rfl) rfl
theorem q616 : Cond.instanceMethod yX4_take ∈ ALL := mr1 (List.mem_of_getElem? (i := 204) rfl) rfl
theorem q617 : Cond.code yX4_take prog_5_method_4_code 3 (Option.none : Option Jvm.ClassFile.FieldType) ∈ ALL := mr1 (List.mem_of_getElem? (i := 205) rfl) rfl
theorem q618 : Cond.methodLink "ControlText$Parser" 43 yX3_forget ∈ ALL := mr1 (List.mem_of_getElem? (i := 206) rfl) rfl
theorem q619 : Cond.instanceMethod yX3_forget ∈ ALL := mr1 (List.mem_of_getElem? (i := 207) rfl) rfl
theorem q620 : Cond.selects "ControlText$Tree" yX3_forget yX3_forget ∈ ALL := mr1 (List.mem_of_getElem? (i := 208) rfl) rfl
theorem q621 : Cond.code yX3_forget prog_8_method_2_code 1 (Option.none : Option Jvm.ClassFile.FieldType) ∈ ALL := mr1 (List.mem_of_getElem? (i := 209) rfl) rfl
theorem q622 : Cond.methodLink "ControlText$Parser" 50 yX3_add ∈ ALL := mr1 (List.mem_of_getElem? (i := 210) rfl) rfl
theorem q623 : Cond.instanceMethod yX3_add ∈ ALL := mr1 (List.mem_of_getElem? (i := 211) rfl) rfl
theorem q624 : Cond.selects "ControlText$Tree" yX3_add yX3_add ∈ ALL := mr1 (List.mem_of_getElem? (i := 212) rfl) rfl
theorem q625 : Cond.code yX3_add prog_8_method_10_code 6 (Option.some Jvm.ClassFile.FieldType.int) ∈ ALL := mr1 (List.mem_of_getElem? (i := 213) rfl) rfl
theorem q626 : Cond.methodLink "ControlText$Parser" 54 yX4_startsBlock ∈ ALL := mr1 (List.mem_of_getElem? (i := 214) rfl) rfl
theorem q628 : Cond.instanceMethod yX4_startsBlock ∈ ALL := mr1 (List.mem_of_getElem? (i := 216) rfl) rfl
theorem q629 : Cond.code yX4_startsBlock prog_5_method_10_code 1 (Option.some Jvm.ClassFile.FieldType.boolean) ∈ ALL := mr1 (List.mem_of_getElem? (i := 217) rfl) rfl
theorem q630 : Cond.methodLink "ControlText$Parser" 58 yX4_blockHead ∈ ALL := mr1 (List.mem_of_getElem? (i := 218) rfl) rfl
theorem q632 : Cond.instanceMethod yX4_blockHead ∈ ALL := mr1 (List.mem_of_getElem? (i := 220) rfl) rfl
theorem q633 : Cond.code yX4_blockHead prog_5_method_13_code 5 (Option.some Jvm.ClassFile.FieldType.int) ∈ ALL := mr1 (List.mem_of_getElem? (i := 221) rfl) rfl
theorem q634 : Cond.methodLink "ControlText$Parser" 115 yX4_kindOfBlock ∈ ALL := mr1 (List.mem_of_getElem? (i := 222) rfl) rfl
theorem q635 : Cond.static yX4_kindOfBlock ∈ ALL := mr1 (List.mem_of_getElem? (i := 223) rfl) rfl
theorem q636 : Cond.code yX4_kindOfBlock prog_5_method_12_code 1 (Option.some Jvm.ClassFile.FieldType.int) ∈ ALL := mr1 (List.mem_of_getElem? (i := 224) rfl) rfl
theorem q637 : Cond.methodLink "ControlText$Parser" 118 yX4_takeName ∈ ALL := mr1 (List.mem_of_getElem? (i := 225) rfl) rfl
theorem q639 : Cond.instanceMethod yX4_takeName ∈ ALL := mr1 (List.mem_of_getElem? (i := 227) rfl) rfl
theorem q640 : Cond.code yX4_takeName prog_5_method_8_code 2 (Option.some Jvm.ClassFile.FieldType.int) ∈ ALL := mr1 (List.mem_of_getElem? (i := 228) rfl) rfl
theorem q641 : Cond.methodLink "ControlText$Parser" 122 yX4_simpleType ∈ ALL := mr1 (List.mem_of_getElem? (i := 229) rfl) rfl
theorem q643 : Cond.instanceMethod yX4_simpleType ∈ ALL := mr1 (List.mem_of_getElem? (i := 231) rfl) rfl
theorem q644 : Cond.code yX4_simpleType prog_5_method_18_code 2 (Option.none : Option Jvm.ClassFile.FieldType) ∈ ALL := mr1 (List.mem_of_getElem? (i := 232) rfl) rfl
theorem q645 : Cond.methodLink "ControlText$Parser" 62 yX4_sections ∈ ALL := mr1 (List.mem_of_getElem? (i := 233) rfl) rfl
theorem q647 : Cond.instanceMethod yX4_sections ∈ ALL := mr1 (List.mem_of_getElem? (i := 235) rfl) rfl
theorem q648 : Cond.code yX4_sections prog_5_method_15_code 5 (Option.none : Option Jvm.ClassFile.FieldType) ∈ ALL := mr1 (List.mem_of_getElem? (i := 236) rfl) rfl
theorem q649 : Cond.methodLink "ControlText$Parser" 125 yX4_startsSection ∈ ALL := mr1 (List.mem_of_getElem? (i := 237) rfl) rfl
theorem q651 : Cond.instanceMethod yX4_startsSection ∈ ALL := mr1 (List.mem_of_getElem? (i := 239) rfl) rfl
theorem q652 : Cond.code yX4_startsSection prog_5_method_14_code 1 (Option.some Jvm.ClassFile.FieldType.boolean) ∈ ALL := mr2 (List.mem_of_getElem? (i := 0) rfl) rfl
theorem q653 : Cond.methodLink "ControlText$Parser" 128 yX4_declaration ∈ ALL := mr2 (List.mem_of_getElem? (i := 1) rfl) rfl
theorem q655 : Cond.instanceMethod yX4_declaration ∈ ALL := mr2 (List.mem_of_getElem? (i := 3) rfl) rfl
theorem q656 : Cond.code yX4_declaration prog_5_method_16_code 4 (Option.none : Option Jvm.ClassFile.FieldType) ∈ ALL := mr2 (List.mem_of_getElem? (i := 4) rfl) rfl
theorem q657 : Cond.methodLink "ControlText$Parser" 131 yX4_nameNode ∈ ALL := mr2 (List.mem_of_getElem? (i := 5) rfl) rfl
theorem q659 : Cond.instanceMethod yX4_nameNode ∈ ALL := mr2 (List.mem_of_getElem? (i := 7) rfl) rfl
theorem q660 : Cond.code yX4_nameNode prog_5_method_9_code 2 (Option.none : Option Jvm.ClassFile.FieldType) ∈ ALL := mr2 (List.mem_of_getElem? (i := 8) rfl) rfl
theorem q661 : Cond.methodLink "ControlText$Parser" 134 yX4_type ∈ ALL := mr2 (List.mem_of_getElem? (i := 9) rfl) rfl
theorem q663 : Cond.instanceMethod yX4_type ∈ ALL := mr2 (List.mem_of_getElem? (i := 11) rfl) rfl
theorem q664 : Cond.code yX4_type prog_5_method_17_code 3 (Option.none : Option Jvm.ClassFile.FieldType) ∈ ALL := mr2 (List.mem_of_getElem? (i := 12) rfl) rfl
theorem q665 : Cond.methodLink "ControlText$Parser" 139 yX4_constant ∈ ALL := mr2 (List.mem_of_getElem? (i := 13) rfl) rfl
theorem q667 : Cond.instanceMethod yX4_constant ∈ ALL := mr2 (List.mem_of_getElem? (i := 15) rfl) rfl
theorem q668 : Cond.code yX4_constant prog_5_method_20_code 3 (Option.none : Option Jvm.ClassFile.FieldType) ∈ ALL := mr2 (List.mem_of_getElem? (i := 16) rfl) rfl
theorem q669 : Cond.methodLink "ControlText$Parser" 142 yX4_literal ∈ ALL := mr2 (List.mem_of_getElem? (i := 17) rfl) rfl
theorem q671 : Cond.instanceMethod yX4_literal ∈ ALL := mr2 (List.mem_of_getElem? (i := 19) rfl) rfl
theorem q672 : Cond.code yX4_literal prog_5_method_21_code 2 (Option.none : Option Jvm.ClassFile.FieldType) ∈ ALL := mr2 (List.mem_of_getElem? (i := 20) rfl) rfl
theorem q673 : Cond.methodLink "ControlText$Parser" 67 yX4_ladder ∈ ALL := mr2 (List.mem_of_getElem? (i := 21) rfl) rfl
theorem q675 : Cond.instanceMethod yX4_ladder ∈ ALL := mr2 (List.mem_of_getElem? (i := 23) rfl) rfl
theorem q676 : Cond.code yX4_ladder prog_5_method_35_code 6 (Option.none : Option Jvm.ClassFile.FieldType) ∈ ALL := mr2 (List.mem_of_getElem? (i := 24) rfl) rfl
theorem q677 : Cond.methodLink "ControlText$Parser" 204 yX4_row ∈ ALL := mr2 (List.mem_of_getElem? (i := 25) rfl) rfl
theorem q679 : Cond.instanceMethod yX4_row ∈ ALL := mr2 (List.mem_of_getElem? (i := 27) rfl) rfl
theorem q680 : Cond.code yX4_row prog_5_method_37_code 4 (Option.none : Option Jvm.ClassFile.FieldType) ∈ ALL := mr2 (List.mem_of_getElem? (i := 28) rfl) rfl
theorem q681 : Cond.methodLink "ControlText$Parser" 210 yX4_cell ∈ ALL := mr2 (List.mem_of_getElem? (i := 29) rfl) rfl
theorem q683 : Cond.instanceMethod yX4_cell ∈ ALL := mr2 (List.mem_of_getElem? (i := 31) rfl) rfl
theorem q684 : Cond.code yX4_cell prog_5_method_38_code 2 (Option.none : Option Jvm.ClassFile.FieldType) ∈ ALL := mr2 (List.mem_of_getElem? (i := 32) rfl) rfl
theorem q685 : Cond.methodLink "ControlText$Parser" 213 yX4_coil ∈ ALL := mr2 (List.mem_of_getElem? (i := 33) rfl) rfl
theorem q687 : Cond.instanceMethod yX4_coil ∈ ALL := mr2 (List.mem_of_getElem? (i := 35) rfl) rfl
theorem q688 : Cond.code yX4_coil prog_5_method_41_code 5 (Option.none : Option Jvm.ClassFile.FieldType) ∈ ALL := mr2 (List.mem_of_getElem? (i := 36) rfl) rfl
theorem q689 : Cond.methodLink "ControlText$Parser" 222 yX4_coilValue ∈ ALL := mr2 (List.mem_of_getElem? (i := 37) rfl) rfl
theorem q690 : Cond.static yX4_coilValue ∈ ALL := mr2 (List.mem_of_getElem? (i := 38) rfl) rfl
theorem q691 : Cond.code yX4_coilValue prog_5_method_42_code 1 (Option.some Jvm.ClassFile.FieldType.int) ∈ ALL := mr2 (List.mem_of_getElem? (i := 39) rfl) rfl
theorem q692 : Cond.methodLink "ControlText$Parser" 216 yX4_contact ∈ ALL := mr2 (List.mem_of_getElem? (i := 40) rfl) rfl
theorem q694 : Cond.instanceMethod yX4_contact ∈ ALL := mr2 (List.mem_of_getElem? (i := 42) rfl) rfl
theorem q695 : Cond.code yX4_contact prog_5_method_39_code 6 (Option.none : Option Jvm.ClassFile.FieldType) ∈ ALL := mr2 (List.mem_of_getElem? (i := 43) rfl) rfl
theorem q696 : Cond.methodLink "ControlText$Parser" 219 yX4_contactValue ∈ ALL := mr2 (List.mem_of_getElem? (i := 44) rfl) rfl
theorem q697 : Cond.static yX4_contactValue ∈ ALL := mr2 (List.mem_of_getElem? (i := 45) rfl) rfl
theorem q698 : Cond.code yX4_contactValue prog_5_method_40_code 1 (Option.some Jvm.ClassFile.FieldType.int) ∈ ALL := mr2 (List.mem_of_getElem? (i := 46) rfl) rfl
theorem q699 : Cond.methodLink "ControlText$Parser" 207 yX4_startsCell ∈ ALL := mr2 (List.mem_of_getElem? (i := 47) rfl) rfl
theorem q701 : Cond.instanceMethod yX4_startsCell ∈ ALL := mr2 (List.mem_of_getElem? (i := 49) rfl) rfl
theorem q702 : Cond.code yX4_startsCell prog_5_method_36_code 1 (Option.some Jvm.ClassFile.FieldType.boolean) ∈ ALL := mr2 (List.mem_of_getElem? (i := 50) rfl) rfl
theorem q703 : Cond.methodLink "ControlText$Parser" 70 yX4_body ∈ ALL := mr2 (List.mem_of_getElem? (i := 51) rfl) rfl
theorem q705 : Cond.instanceMethod yX4_body ∈ ALL := mr2 (List.mem_of_getElem? (i := 53) rfl) rfl
theorem q706 : Cond.code yX4_body prog_5_method_22_code 5 (Option.none : Option Jvm.ClassFile.FieldType) ∈ ALL := mr2 (List.mem_of_getElem? (i := 54) rfl) rfl
theorem q707 : Cond.methodLink "ControlText$Parser" 145 yX4_statement ∈ ALL := mr2 (List.mem_of_getElem? (i := 55) rfl) rfl
theorem q709 : Cond.instanceMethod yX4_statement ∈ ALL := mr2 (List.mem_of_getElem? (i := 57) rfl) rfl
theorem q710 : Cond.code yX4_statement prog_5_method_23_code 4 (Option.some Jvm.ClassFile.FieldType.boolean) ∈ ALL := mr2 (List.mem_of_getElem? (i := 58) rfl) rfl
theorem q711 : Cond.methodLink "ControlText$Parser" 149 yX4_invocation ∈ ALL := mr2 (List.mem_of_getElem? (i := 59) rfl) rfl
theorem q713 : Cond.instanceMethod yX4_invocation ∈ ALL := mr2 (List.mem_of_getElem? (i := 61) rfl) rfl
theorem q714 : Cond.code yX4_invocation prog_5_method_25_code 9 (Option.none : Option Jvm.ClassFile.FieldType) ∈ ALL := mr2 (List.mem_of_getElem? (i := 62) rfl) rfl
theorem q715 : Cond.methodLink "ControlText$Parser" 166 yX4_takeOpening ∈ ALL := mr2 (List.mem_of_getElem? (i := 63) rfl) rfl
theorem q717 : Cond.instanceMethod yX4_takeOpening ∈ ALL := mr2 (List.mem_of_getElem? (i := 65) rfl) rfl
theorem q718 : Cond.code yX4_takeOpening prog_5_method_5_code 1 (Option.none : Option Jvm.ClassFile.FieldType) ∈ ALL := mr2 (List.mem_of_getElem? (i := 66) rfl) rfl
theorem q719 : Cond.methodLink "ControlText$Parser" 112 yX4_mayOpen ∈ ALL := mr2 (List.mem_of_getElem? (i := 67) rfl) rfl
theorem q721 : Cond.instanceMethod yX4_mayOpen ∈ ALL := mr2 (List.mem_of_getElem? (i := 69) rfl) rfl
theorem q722 : Cond.code yX4_mayOpen prog_5_method_6_code 1 (Option.some Jvm.ClassFile.FieldType.boolean) ∈ ALL := mr2 (List.mem_of_getElem? (i := 70) rfl) rfl
theorem q723 : Cond.methodLink "ControlText$Parser" 169 yX4_outermostExpression ∈ ALL := mr2 (List.mem_of_getElem? (i := 71) rfl) rfl
theorem q725 : Cond.instanceMethod yX4_outermostExpression ∈ ALL := mr2 (List.mem_of_getElem? (i := 73) rfl) rfl
theorem q726 : Cond.code yX4_outermostExpression prog_5_method_31_code 2 (Option.none : Option Jvm.ClassFile.FieldType) ∈ ALL := mr2 (List.mem_of_getElem? (i := 74) rfl) rfl
theorem q727 : Cond.methodLink "ControlText$Parser" 188 yX4_expression ∈ ALL := mr2 (List.mem_of_getElem? (i := 75) rfl) rfl
theorem q729 : Cond.instanceMethod yX4_expression ∈ ALL := mr2 (List.mem_of_getElem? (i := 77) rfl) rfl
theorem q730 : Cond.code yX4_expression prog_5_method_32_code 7 (Option.none : Option Jvm.ClassFile.FieldType) ∈ ALL := mr2 (List.mem_of_getElem? (i := 78) rfl) rfl
theorem q731 : Cond.methodLink "ControlText$Parser" 192 yX4_operand ∈ ALL := mr2 (List.mem_of_getElem? (i := 79) rfl) rfl
theorem q733 : Cond.instanceMethod yX4_operand ∈ ALL := mr2 (List.mem_of_getElem? (i := 81) rfl) rfl
theorem q734 : Cond.code yX4_operand prog_5_method_33_code 3 (Option.none : Option Jvm.ClassFile.FieldType) ∈ ALL := mr2 (List.mem_of_getElem? (i := 82) rfl) rfl
theorem q735 : Cond.methodLink "ControlText$Parser" 172 yX4_takeClosing ∈ ALL := mr2 (List.mem_of_getElem? (i := 83) rfl) rfl
theorem q737 : Cond.instanceMethod yX4_takeClosing ∈ ALL := mr2 (List.mem_of_getElem? (i := 85) rfl) rfl
theorem q738 : Cond.code yX4_takeClosing prog_5_method_7_code 2 (Option.none : Option Jvm.ClassFile.FieldType) ∈ ALL := mr2 (List.mem_of_getElem? (i := 86) rfl) rfl
theorem q739 : Cond.methodLink "ControlText$Parser" 201 yX4_operandByName ∈ ALL := mr2 (List.mem_of_getElem? (i := 87) rfl) rfl
theorem q741 : Cond.instanceMethod yX4_operandByName ∈ ALL := mr2 (List.mem_of_getElem? (i := 89) rfl) rfl
theorem q742 : Cond.code yX4_operandByName prog_5_method_34_code 8 (Option.none : Option Jvm.ClassFile.FieldType) ∈ ALL := mr2 (List.mem_of_getElem? (i := 90) rfl) rfl
theorem q743 : Cond.methodLink "ControlText$Parser" 179 yX4_takeComma ∈ ALL := mr2 (List.mem_of_getElem? (i := 91) rfl) rfl
theorem q745 : Cond.instanceMethod yX4_takeComma ∈ ALL := mr2 (List.mem_of_getElem? (i := 93) rfl) rfl
theorem q746 : Cond.code yX4_takeComma prog_5_method_26_code 1 (Option.some Jvm.ClassFile.FieldType.boolean) ∈ ALL := mr2 (List.mem_of_getElem? (i := 94) rfl) rfl
theorem q747 : Cond.methodLink "ControlText$Parser" 195 yX7_operation ∈ ALL := mr2 (List.mem_of_getElem? (i := 95) rfl) rfl
theorem q748 : Cond.static yX7_operation ∈ ALL := mr2 (List.mem_of_getElem? (i := 96) rfl) rfl
theorem q749 : Cond.code yX7_operation prog_6_method_2_code 1 (Option.some Jvm.ClassFile.FieldType.int) ∈ ALL := mr2 (List.mem_of_getElem? (i := 97) rfl) rfl
theorem q750 : Cond.methodLink "ControlText$Parser" 198 yX7_binding ∈ ALL := mr2 (List.mem_of_getElem? (i := 98) rfl) rfl
theorem q751 : Cond.static yX7_binding ∈ ALL := mr2 (List.mem_of_getElem? (i := 99) rfl) rfl
theorem q752 : Cond.code yX7_binding prog_6_method_4_code 1 (Option.some Jvm.ClassFile.FieldType.int) ∈ ALL := mr2 (List.mem_of_getElem? (i := 100) rfl) rfl
theorem q753 : Cond.fieldLink "ControlText$Sign" 15 "ControlText$Sign" "BINDING" "[I" ∈ ALL := mr2 (List.mem_of_getElem? (i := 101) rfl) rfl
theorem q755 : Cond.methodLink "ControlText$Parser" 175 yX3_wrap ∈ ALL := mr2 (List.mem_of_getElem? (i := 103) rfl) rfl
theorem q756 : Cond.instanceMethod yX3_wrap ∈ ALL := mr2 (List.mem_of_getElem? (i := 104) rfl) rfl
theorem q757 : Cond.selects "ControlText$Tree" yX3_wrap yX3_wrap ∈ ALL := mr2 (List.mem_of_getElem? (i := 105) rfl) rfl
theorem q758 : Cond.code yX3_wrap prog_8_method_11_code 6 (Option.none : Option Jvm.ClassFile.FieldType) ∈ ALL := mr2 (List.mem_of_getElem? (i := 106) rfl) rfl
theorem q759 : Cond.methodLink "ControlText$Tree" 37 yX3_has ∈ ALL := mr2 (List.mem_of_getElem? (i := 107) rfl) rfl
theorem q761 : Cond.instanceMethod yX3_has ∈ ALL := mr2 (List.mem_of_getElem? (i := 109) rfl) rfl
theorem q762 : Cond.code yX3_has prog_8_method_3_code 2 (Option.some Jvm.ClassFile.FieldType.boolean) ∈ ALL := mr2 (List.mem_of_getElem? (i := 110) rfl) rfl
theorem q763 : Cond.methodLink "ControlText$Tree" 41 ⟨"java/lang/System", "arraycopy", "(Ljava/lang/Object;ILjava/lang/Object;II)V"⟩ ∈ ALL := mr2 (List.mem_of_getElem? (i := 111) rfl) rfl
theorem q764 : Cond.static ⟨"java/lang/System", "arraycopy", "(Ljava/lang/Object;ILjava/lang/Object;II)V"⟩ ∈ ALL := mr2 (List.mem_of_getElem? (i := 112) rfl) rfl
theorem q765 : Cond.native ⟨"java/lang/System", "arraycopy", "(Ljava/lang/Object;ILjava/lang/Object;II)V"⟩ ∈ ALL := mr2 (List.mem_of_getElem? (i := 113) rfl) rfl
theorem q766 : Cond.methodLink "ControlText$Parser" 153 yX4_assignment ∈ ALL := mr2 (List.mem_of_getElem? (i := 114) rfl) rfl
theorem q768 : Cond.instanceMethod yX4_assignment ∈ ALL := mr2 (List.mem_of_getElem? (i := 116) rfl) rfl
theorem q769 : Cond.code yX4_assignment prog_5_method_24_code 6 (Option.none : Option Jvm.ClassFile.FieldType) ∈ ALL := mr2 (List.mem_of_getElem? (i := 117) rfl) rfl
theorem q770 : Cond.methodLink "ControlText$Parser" 156 yX4_ifStatement ∈ ALL := mr2 (List.mem_of_getElem? (i := 118) rfl) rfl
theorem q772 : Cond.instanceMethod yX4_ifStatement ∈ ALL := mr2 (List.mem_of_getElem? (i := 120) rfl) rfl
theorem q773 : Cond.code yX4_ifStatement prog_5_method_27_code 4 (Option.none : Option Jvm.ClassFile.FieldType) ∈ ALL := mr2 (List.mem_of_getElem? (i := 121) rfl) rfl
theorem q774 : Cond.methodLink "ControlText$Parser" 159 yX4_caseStatement ∈ ALL := mr2 (List.mem_of_getElem? (i := 122) rfl) rfl
theorem q776 : Cond.instanceMethod yX4_caseStatement ∈ ALL := mr2 (List.mem_of_getElem? (i := 124) rfl) rfl
theorem q777 : Cond.code yX4_caseStatement prog_5_method_28_code 5 (Option.none : Option Jvm.ClassFile.FieldType) ∈ ALL := mr2 (List.mem_of_getElem? (i := 125) rfl) rfl
theorem q778 : Cond.methodLink "ControlText$Parser" 182 yX4_startsConstant ∈ ALL := mr2 (List.mem_of_getElem? (i := 126) rfl) rfl
theorem q780 : Cond.instanceMethod yX4_startsConstant ∈ ALL := mr2 (List.mem_of_getElem? (i := 128) rfl) rfl
theorem q781 : Cond.code yX4_startsConstant prog_5_method_19_code 1 (Option.some Jvm.ClassFile.FieldType.boolean) ∈ ALL := mr2 (List.mem_of_getElem? (i := 129) rfl) rfl
theorem q782 : Cond.methodLink "ControlText$Parser" 185 yX4_ranges ∈ ALL := mr2 (List.mem_of_getElem? (i := 130) rfl) rfl
theorem q784 : Cond.instanceMethod yX4_ranges ∈ ALL := mr2 (List.mem_of_getElem? (i := 132) rfl) rfl
theorem q785 : Cond.code yX4_ranges prog_5_method_29_code 5 (Option.none : Option Jvm.ClassFile.FieldType) ∈ ALL := mr2 (List.mem_of_getElem? (i := 133) rfl) rfl
theorem q786 : Cond.methodLink "ControlText$Parser" 162 yX4_forStatement ∈ ALL := mr2 (List.mem_of_getElem? (i := 134) rfl) rfl
theorem q788 : Cond.instanceMethod yX4_forStatement ∈ ALL := mr2 (List.mem_of_getElem? (i := 136) rfl) rfl
theorem q789 : Cond.code yX4_forStatement prog_5_method_30_code 4 (Option.none : Option Jvm.ClassFile.FieldType) ∈ ALL := mr2 (List.mem_of_getElem? (i := 137) rfl) rfl
theorem q790 : Cond.methodLink "ControlText$Parser" 73 yX4_endOfBlock ∈ ALL := mr2 (List.mem_of_getElem? (i := 138) rfl) rfl
theorem q791 : Cond.static yX4_endOfBlock ∈ ALL := mr2 (List.mem_of_getElem? (i := 139) rfl) rfl
theorem q792 : Cond.code yX4_endOfBlock prog_5_method_11_code 1 (Option.some Jvm.ClassFile.FieldType.int) ∈ ALL := mr2 (List.mem_of_getElem? (i := 140) rfl) rfl
theorem q793 : Cond.methodLink "ControlText$Parser" 78 yX4_tellFault ∈ ALL := mr2 (List.mem_of_getElem? (i := 141) rfl) rfl
theorem q795 : Cond.instanceMethod yX4_tellFault ∈ ALL := mr2 (List.mem_of_getElem? (i := 143) rfl) rfl
theorem q796 : Cond.code yX4_tellFault prog_5_method_3_code 2 (Option.none : Option Jvm.ClassFile.FieldType) ∈ ALL := mr2 (List.mem_of_getElem? (i := 144) rfl) rfl
theorem q797 : Cond.methodLink "ControlText$Parser" 81 yX2_kind ∈ ALL := mr2 (List.mem_of_getElem? (i := 145) rfl) rfl
theorem q798 : Cond.methodLink "ControlText$Parser" 86 yX2_value ∈ ALL := mr2 (List.mem_of_getElem? (i := 146) rfl) rfl
theorem q799 : Cond.instanceMethod yX2_value ∈ ALL := mr2 (List.mem_of_getElem? (i := 147) rfl) rfl
theorem q800 : Cond.selects "ControlText$Tokens" yX2_value yX2_value ∈ ALL := mr2 (List.mem_of_getElem? (i := 148) rfl) rfl
theorem q801 : Cond.code yX2_value prog_7_method_4_code 2 (Option.some Jvm.ClassFile.FieldType.int) ∈ ALL := mr2 (List.mem_of_getElem? (i := 149) rfl) rfl
theorem q802 : Cond.methodLink "ControlText$Parser" 89 yX2_place ∈ ALL := mr2 (List.mem_of_getElem? (i := 150) rfl) rfl
theorem q803 : Cond.instanceMethod yX2_place ∈ ALL := mr2 (List.mem_of_getElem? (i := 151) rfl) rfl
theorem q804 : Cond.selects "ControlText$Tokens" yX2_place yX2_place ∈ ALL := mr2 (List.mem_of_getElem? (i := 152) rfl) rfl
theorem q805 : Cond.code yX2_place prog_7_method_3_code 2 (Option.some Jvm.ClassFile.FieldType.int) ∈ ALL := mr2 (List.mem_of_getElem? (i := 153) rfl) rfl
theorem q806 : Cond.methodLink "ControlText" 88 yX3_link ∈ ALL := mr2 (List.mem_of_getElem? (i := 154) rfl) rfl
theorem q807 : Cond.instanceMethod yX3_link ∈ ALL := mr2 (List.mem_of_getElem? (i := 155) rfl) rfl
theorem q808 : Cond.selects "ControlText$Tree" yX3_link yX3_link ∈ ALL := mr2 (List.mem_of_getElem? (i := 156) rfl) rfl
theorem q809 : Cond.code yX3_link prog_8_method_12_code 3 (Option.none : Option Jvm.ClassFile.FieldType) ∈ ALL := mr2 (List.mem_of_getElem? (i := 157) rfl) rfl
theorem q810 : Cond.methodLink "ControlText$Tree" 47 yX3_firstUnfilled ∈ ALL := mr2 (List.mem_of_getElem? (i := 158) rfl) rfl
theorem q812 : Cond.instanceMethod yX3_firstUnfilled ∈ ALL := mr2 (List.mem_of_getElem? (i := 160) rfl) rfl
theorem q813 : Cond.code yX3_firstUnfilled prog_8_method_13_code 4 (Option.some Jvm.ClassFile.FieldType.int) ∈ ALL := mr2 (List.mem_of_getElem? (i := 161) rfl) rfl
theorem q814 : Cond.methodLink "ControlText" 91 yX3_forget ∈ ALL := mr2 (List.mem_of_getElem? (i := 162) rfl) rfl
theorem q815 : Cond.methodLink "ControlText" 94 yX1_forget ∈ ALL := mr2 (List.mem_of_getElem? (i := 163) rfl) rfl
theorem q816 : Cond.methodLink "ControlTextLaw" 37 yX6_count ∈ ALL := mr2 (List.mem_of_getElem? (i := 164) rfl) rfl
theorem q817 : Cond.instanceMethod yX6_count ∈ ALL := mr2 (List.mem_of_getElem? (i := 165) rfl) rfl
theorem q818 : Cond.selects "ControlText" yX6_count yX6_count ∈ ALL := mr2 (List.mem_of_getElem? (i := 166) rfl) rfl
theorem q819 : Cond.code yX6_count prog_1_method_8_code 2 (Option.some Jvm.ClassFile.FieldType.int) ∈ ALL := mr2 (List.mem_of_getElem? (i := 167) rfl) rfl
theorem q820 : Cond.methodLink "ControlTextLaw" 41 yX6_node ∈ ALL := mr2 (List.mem_of_getElem? (i := 168) rfl) rfl
theorem q821 : Cond.instanceMethod yX6_node ∈ ALL := mr2 (List.mem_of_getElem? (i := 169) rfl) rfl
theorem q822 : Cond.selects "ControlText" yX6_node yX6_node ∈ ALL := mr2 (List.mem_of_getElem? (i := 170) rfl) rfl
theorem q823 : Cond.code yX6_node prog_1_method_9_code 3 (Option.some Jvm.ClassFile.FieldType.int) ∈ ALL := mr2 (List.mem_of_getElem? (i := 171) rfl) rfl
theorem q824 : Cond.methodLink "ControlText" 102 yX3_kind ∈ ALL := mr2 (List.mem_of_getElem? (i := 172) rfl) rfl
theorem q825 : Cond.instanceMethod yX3_kind ∈ ALL := mr2 (List.mem_of_getElem? (i := 173) rfl) rfl
theorem q826 : Cond.selects "ControlText$Tree" yX3_kind yX3_kind ∈ ALL := mr2 (List.mem_of_getElem? (i := 174) rfl) rfl
theorem q827 : Cond.code yX3_kind prog_8_method_4_code 2 (Option.some Jvm.ClassFile.FieldType.int) ∈ ALL := mr2 (List.mem_of_getElem? (i := 175) rfl) rfl
theorem q828 : Cond.methodLink "ControlText" 106 yX3_place ∈ ALL := mr2 (List.mem_of_getElem? (i := 176) rfl) rfl
theorem q829 : Cond.instanceMethod yX3_place ∈ ALL := mr2 (List.mem_of_getElem? (i := 177) rfl) rfl
theorem q830 : Cond.selects "ControlText$Tree" yX3_place yX3_place ∈ ALL := mr2 (List.mem_of_getElem? (i := 178) rfl) rfl
theorem q831 : Cond.code yX3_place prog_8_method_5_code 2 (Option.some Jvm.ClassFile.FieldType.int) ∈ ALL := mr2 (List.mem_of_getElem? (i := 179) rfl) rfl
theorem q832 : Cond.methodLink "ControlText" 109 yX3_value ∈ ALL := mr2 (List.mem_of_getElem? (i := 180) rfl) rfl
theorem q833 : Cond.instanceMethod yX3_value ∈ ALL := mr2 (List.mem_of_getElem? (i := 181) rfl) rfl
theorem q834 : Cond.selects "ControlText$Tree" yX3_value yX3_value ∈ ALL := mr2 (List.mem_of_getElem? (i := 182) rfl) rfl
theorem q835 : Cond.code yX3_value prog_8_method_6_code 2 (Option.some Jvm.ClassFile.FieldType.int) ∈ ALL := mr2 (List.mem_of_getElem? (i := 183) rfl) rfl
theorem q836 : Cond.methodLink "ControlText" 112 yX3_parent ∈ ALL := mr2 (List.mem_of_getElem? (i := 184) rfl) rfl
theorem q837 : Cond.instanceMethod yX3_parent ∈ ALL := mr2 (List.mem_of_getElem? (i := 185) rfl) rfl
theorem q838 : Cond.selects "ControlText$Tree" yX3_parent yX3_parent ∈ ALL := mr2 (List.mem_of_getElem? (i := 186) rfl) rfl
theorem q839 : Cond.code yX3_parent prog_8_method_8_code 2 (Option.some Jvm.ClassFile.FieldType.int) ∈ ALL := mr2 (List.mem_of_getElem? (i := 187) rfl) rfl
theorem q840 : Cond.methodLink "ControlText" 115 yX3_children ∈ ALL := mr2 (List.mem_of_getElem? (i := 188) rfl) rfl
theorem q841 : Cond.instanceMethod yX3_children ∈ ALL := mr2 (List.mem_of_getElem? (i := 189) rfl) rfl
theorem q842 : Cond.selects "ControlText$Tree" yX3_children yX3_children ∈ ALL := mr2 (List.mem_of_getElem? (i := 190) rfl) rfl
theorem q843 : Cond.code yX3_children prog_8_method_7_code 2 (Option.some Jvm.ClassFile.FieldType.int) ∈ ALL := mr2 (List.mem_of_getElem? (i := 191) rfl) rfl
theorem q844 : Cond.methodLink "ControlTextLaw" 45 yX6_nameByte ∈ ALL := mr2 (List.mem_of_getElem? (i := 192) rfl) rfl
theorem q845 : Cond.instanceMethod yX6_nameByte ∈ ALL := mr2 (List.mem_of_getElem? (i := 193) rfl) rfl
theorem q846 : Cond.selects "ControlText" yX6_nameByte yX6_nameByte ∈ ALL := mr2 (List.mem_of_getElem? (i := 194) rfl) rfl
theorem q847 : Cond.code yX6_nameByte prog_1_method_10_code 3 (Option.some Jvm.ClassFile.FieldType.int) ∈ ALL := mr2 (List.mem_of_getElem? (i := 195) rfl) rfl
theorem q848 : Cond.methodLink "ControlText" 118 yX1_letterOf ∈ ALL := mr2 (List.mem_of_getElem? (i := 196) rfl) rfl
theorem q849 : Cond.instanceMethod yX1_letterOf ∈ ALL := mr2 (List.mem_of_getElem? (i := 197) rfl) rfl
theorem q850 : Cond.selects "ControlText$Names" yX1_letterOf yX1_letterOf ∈ ALL := mr2 (List.mem_of_getElem? (i := 198) rfl) rfl
theorem q851 : Cond.code yX1_letterOf prog_4_method_10_code 4 (Option.some Jvm.ClassFile.FieldType.int) ∈ ALL := mr2 (List.mem_of_getElem? (i := 199) rfl) rfl
theorem q852 : Cond.methodLink "ControlTextLaw" 49 yX6_write ∈ ALL := mr2 (List.mem_of_getElem? (i := 200) rfl) rfl
theorem q853 : Cond.instanceMethod yX6_write ∈ ALL := mr2 (List.mem_of_getElem? (i := 201) rfl) rfl
theorem q854 : Cond.selects "ControlText" yX6_write yX6_write ∈ ALL := mr2 (List.mem_of_getElem? (i := 202) rfl) rfl
theorem q855 : Cond.code yX6_write prog_1_method_11_code 1 (Option.some Jvm.ClassFile.FieldType.int) ∈ ALL := mr2 (List.mem_of_getElem? (i := 203) rfl) rfl
theorem q856 : Cond.methodLink "ControlText" 121 yX5_writeTree ∈ ALL := mr2 (List.mem_of_getElem? (i := 204) rfl) rfl
theorem q857 : Cond.instanceMethod yX5_writeTree ∈ ALL := mr2 (List.mem_of_getElem? (i := 205) rfl) rfl
theorem q858 : Cond.selects "ControlText$Writer" yX5_writeTree yX5_writeTree ∈ ALL := mr2 (List.mem_of_getElem? (i := 206) rfl) rfl
theorem q859 : Cond.code yX5_writeTree prog_10_method_2_code 3 (Option.none : Option Jvm.ClassFile.FieldType) ∈ ALL := mr2 (List.mem_of_getElem? (i := 207) rfl) rfl
theorem q860 : Cond.methodLink "ControlText$Writer" 23 yX0_cut ∈ ALL := mr2 (List.mem_of_getElem? (i := 208) rfl) rfl
theorem q861 : Cond.methodLink "ControlText$Writer" 35 yX3_parent ∈ ALL := mr2 (List.mem_of_getElem? (i := 209) rfl) rfl
theorem q862 : Cond.methodLink "ControlText$Writer" 39 yX5_finishUpTo ∈ ALL := mr2 (List.mem_of_getElem? (i := 210) rfl) rfl
theorem q864 : Cond.instanceMethod yX5_finishUpTo ∈ ALL := mr2 (List.mem_of_getElem? (i := 212) rfl) rfl
theorem q865 : Cond.code yX5_finishUpTo prog_10_method_3_code 5 (Option.none : Option Jvm.ClassFile.FieldType) ∈ ALL := mr2 (List.mem_of_getElem? (i := 213) rfl) rfl
theorem q866 : Cond.methodLink "ControlText$Writer" 49 yX5_finish ∈ ALL := mr2 (List.mem_of_getElem? (i := 214) rfl) rfl
theorem q868 : Cond.instanceMethod yX5_finish ∈ ALL := mr2 (List.mem_of_getElem? (i := 216) rfl) rfl
theorem q869 : Cond.code yX5_finish prog_10_method_17_code 3 (Option.none : Option Jvm.ClassFile.FieldType) ∈ ALL := mr2 (List.mem_of_getElem? (i := 217) rfl) rfl
theorem q870 : Cond.methodLink "ControlText$Writer" 55 yX3_kind ∈ ALL := mr2 (List.mem_of_getElem? (i := 218) rfl) rfl
theorem q871 : Cond.methodLink "ControlText$Writer" 121 yX3_children ∈ ALL := mr2 (List.mem_of_getElem? (i := 219) rfl) rfl
theorem q872 : Cond.methodLink "ControlText$Writer" 60 yX5_token ∈ ALL := mr2 (List.mem_of_getElem? (i := 220) rfl) rfl
theorem q874 : Cond.instanceMethod yX5_token ∈ ALL := mr2 (List.mem_of_getElem? (i := 222) rfl) rfl
theorem q875 : Cond.code yX5_token prog_10_method_20_code 2 (Option.none : Option Jvm.ClassFile.FieldType) ∈ ALL := mr2 (List.mem_of_getElem? (i := 223) rfl) rfl
theorem q876 : Cond.methodLink "ControlText$Writer" 100 yX5_word ∈ ALL := mr2 (List.mem_of_getElem? (i := 224) rfl) rfl
theorem q878 : Cond.instanceMethod yX5_word ∈ ALL := mr2 (List.mem_of_getElem? (i := 226) rfl) rfl
theorem q879 : Cond.code yX5_word prog_10_method_21_code 4 (Option.none : Option Jvm.ClassFile.FieldType) ∈ ALL := mr2 (List.mem_of_getElem? (i := 227) rfl) rfl
theorem q880 : Cond.methodLink "ControlText$Writer" 133 yX5_part ∈ ALL := mr2 (List.mem_of_getElem? (i := 228) rfl) rfl
theorem q882 : Cond.instanceMethod yX5_part ∈ ALL := mr2 (List.mem_of_getElem? (i := 230) rfl) rfl
theorem q883 : Cond.code yX5_part prog_10_method_22_code 1 (Option.none : Option Jvm.ClassFile.FieldType) ∈ ALL := mr2 (List.mem_of_getElem? (i := 231) rfl) rfl
theorem q884 : Cond.methodLink "ControlText$Writer" 142 yX0_get ∈ ALL := mr2 (List.mem_of_getElem? (i := 232) rfl) rfl
theorem q886 : Cond.methodLink "ControlText$Writer" 130 yX0_put ∈ ALL := mr2 (List.mem_of_getElem? (i := 234) rfl) rfl
theorem q887 : Cond.methodLink "ControlText$Writer" 136 yX1_letterOf ∈ ALL := mr2 (List.mem_of_getElem? (i := 235) rfl) rfl
theorem q888 : Cond.methodLink "ControlText$Writer" 93 yX5_isBracketed ∈ ALL := mr2 (List.mem_of_getElem? (i := 236) rfl) rfl
theorem q890 : Cond.instanceMethod yX5_isBracketed ∈ ALL := mr2 (List.mem_of_getElem? (i := 238) rfl) rfl
theorem q891 : Cond.code yX5_isBracketed prog_10_method_16_code 5 (Option.some Jvm.ClassFile.FieldType.boolean) ∈ ALL := mr2 (List.mem_of_getElem? (i := 239) rfl) rfl
theorem q892 : Cond.methodLink "ControlText$Writer" 65 yX3_value ∈ ALL := mr3 (List.mem_of_getElem? (i := 0) rfl) rfl
theorem q893 : Cond.methodLink "ControlText$Writer" 118 yX7_binding ∈ ALL := mr3 (List.mem_of_getElem? (i := 1) rfl) rfl
theorem q894 : Cond.methodLink "ControlText$Writer" 52 yX3_rank ∈ ALL := mr3 (List.mem_of_getElem? (i := 2) rfl) rfl
theorem q895 : Cond.instanceMethod yX3_rank ∈ ALL := mr3 (List.mem_of_getElem? (i := 3) rfl) rfl
theorem q896 : Cond.selects "ControlText$Tree" yX3_rank yX3_rank ∈ ALL := mr3 (List.mem_of_getElem? (i := 4) rfl) rfl
theorem q897 : Cond.code yX3_rank prog_8_method_9_code 2 (Option.some Jvm.ClassFile.FieldType.int) ∈ ALL := mr3 (List.mem_of_getElem? (i := 5) rfl) rfl
theorem q898 : Cond.methodLink "ControlText$Writer" 124 yX5_lastToken ∈ ALL := mr3 (List.mem_of_getElem? (i := 6) rfl) rfl
theorem q899 : Cond.static yX5_lastToken ∈ ALL := mr3 (List.mem_of_getElem? (i := 7) rfl) rfl
theorem q900 : Cond.code yX5_lastToken prog_10_method_18_code 1 (Option.some Jvm.ClassFile.FieldType.int) ∈ ALL := mr3 (List.mem_of_getElem? (i := 8) rfl) rfl
theorem q901 : Cond.methodLink "ControlText$Writer" 127 yX5_endsBySemicolon ∈ ALL := mr3 (List.mem_of_getElem? (i := 9) rfl) rfl
theorem q902 : Cond.static yX5_endsBySemicolon ∈ ALL := mr3 (List.mem_of_getElem? (i := 10) rfl) rfl
theorem q903 : Cond.code yX5_endsBySemicolon prog_10_method_19_code 1 (Option.some Jvm.ClassFile.FieldType.boolean) ∈ ALL := mr3 (List.mem_of_getElem? (i := 11) rfl) rfl
theorem q904 : Cond.methodLink "ControlText$Writer" 43 yX5_separate ∈ ALL := mr3 (List.mem_of_getElem? (i := 12) rfl) rfl
theorem q906 : Cond.instanceMethod yX5_separate ∈ ALL := mr3 (List.mem_of_getElem? (i := 14) rfl) rfl
theorem q907 : Cond.code yX5_separate prog_10_method_4_code 5 (Option.none : Option Jvm.ClassFile.FieldType) ∈ ALL := mr3 (List.mem_of_getElem? (i := 15) rfl) rfl
theorem q908 : Cond.methodLink "ControlText$Writer" 68 yX7_between ∈ ALL := mr3 (List.mem_of_getElem? (i := 16) rfl) rfl
theorem q909 : Cond.static yX7_between ∈ ALL := mr3 (List.mem_of_getElem? (i := 17) rfl) rfl
theorem q910 : Cond.code yX7_between prog_6_method_3_code 1 (Option.some Jvm.ClassFile.FieldType.int) ∈ ALL := mr3 (List.mem_of_getElem? (i := 18) rfl) rfl
theorem q911 : Cond.fieldLink "ControlText$Sign" 9 "ControlText$Sign" "BETWEEN" "[I" ∈ ALL := mr3 (List.mem_of_getElem? (i := 19) rfl) rfl
theorem q913 : Cond.methodLink "ControlText$Writer" 73 yX5_separator ∈ ALL := mr3 (List.mem_of_getElem? (i := 21) rfl) rfl
theorem q914 : Cond.static yX5_separator ∈ ALL := mr3 (List.mem_of_getElem? (i := 22) rfl) rfl
theorem q915 : Cond.code yX5_separator prog_10_method_5_code 3 (Option.some Jvm.ClassFile.FieldType.int) ∈ ALL := mr3 (List.mem_of_getElem? (i := 23) rfl) rfl
theorem q916 : Cond.methodLink "ControlText$Writer" 77 yX5_separatorInDeclaration ∈ ALL := mr3 (List.mem_of_getElem? (i := 24) rfl) rfl
theorem q917 : Cond.static yX5_separatorInDeclaration ∈ ALL := mr3 (List.mem_of_getElem? (i := 25) rfl) rfl
theorem q918 : Cond.code yX5_separatorInDeclaration prog_10_method_7_code 2 (Option.some Jvm.ClassFile.FieldType.int) ∈ ALL := mr3 (List.mem_of_getElem? (i := 26) rfl) rfl
theorem q919 : Cond.methodLink "ControlText$Writer" 84 yX5_behindFirst ∈ ALL := mr3 (List.mem_of_getElem? (i := 27) rfl) rfl
theorem q920 : Cond.static yX5_behindFirst ∈ ALL := mr3 (List.mem_of_getElem? (i := 28) rfl) rfl
theorem q921 : Cond.code yX5_behindFirst prog_10_method_6_code 2 (Option.some Jvm.ClassFile.FieldType.int) ∈ ALL := mr3 (List.mem_of_getElem? (i := 29) rfl) rfl
theorem q922 : Cond.methodLink "ControlText$Writer" 81 yX5_separatorInIf ∈ ALL := mr3 (List.mem_of_getElem? (i := 30) rfl) rfl
theorem q923 : Cond.static yX5_separatorInIf ∈ ALL := mr3 (List.mem_of_getElem? (i := 31) rfl) rfl
theorem q924 : Cond.code yX5_separatorInIf prog_10_method_8_code 2 (Option.some Jvm.ClassFile.FieldType.int) ∈ ALL := mr3 (List.mem_of_getElem? (i := 32) rfl) rfl
theorem q925 : Cond.methodLink "ControlText$Writer" 87 yX5_separatorInFor ∈ ALL := mr3 (List.mem_of_getElem? (i := 33) rfl) rfl
theorem q926 : Cond.static yX5_separatorInFor ∈ ALL := mr3 (List.mem_of_getElem? (i := 34) rfl) rfl
theorem q927 : Cond.code yX5_separatorInFor prog_10_method_9_code 2 (Option.some Jvm.ClassFile.FieldType.int) ∈ ALL := mr3 (List.mem_of_getElem? (i := 35) rfl) rfl
theorem q928 : Cond.methodLink "ControlText$Writer" 46 yX5_begin ∈ ALL := mr3 (List.mem_of_getElem? (i := 36) rfl) rfl
theorem q930 : Cond.instanceMethod yX5_begin ∈ ALL := mr3 (List.mem_of_getElem? (i := 38) rfl) rfl
theorem q931 : Cond.code yX5_begin prog_10_method_10_code 4 (Option.none : Option Jvm.ClassFile.FieldType) ∈ ALL := mr3 (List.mem_of_getElem? (i := 39) rfl) rfl
theorem q932 : Cond.methodLink "ControlText$Writer" 90 yX5_firstToken ∈ ALL := mr3 (List.mem_of_getElem? (i := 40) rfl) rfl
theorem q933 : Cond.static yX5_firstToken ∈ ALL := mr3 (List.mem_of_getElem? (i := 41) rfl) rfl
theorem q934 : Cond.code yX5_firstToken prog_10_method_11_code 2 (Option.some Jvm.ClassFile.FieldType.int) ∈ ALL := mr3 (List.mem_of_getElem? (i := 42) rfl) rfl
theorem q935 : Cond.methodLink "ControlText$Writer" 112 yX5_contactSign ∈ ALL := mr3 (List.mem_of_getElem? (i := 43) rfl) rfl
theorem q936 : Cond.static yX5_contactSign ∈ ALL := mr3 (List.mem_of_getElem? (i := 44) rfl) rfl
theorem q937 : Cond.code yX5_contactSign prog_10_method_12_code 1 (Option.some Jvm.ClassFile.FieldType.int) ∈ ALL := mr3 (List.mem_of_getElem? (i := 45) rfl) rfl
theorem q938 : Cond.methodLink "ControlText$Writer" 97 yX5_bearsName ∈ ALL := mr3 (List.mem_of_getElem? (i := 46) rfl) rfl
theorem q939 : Cond.static yX5_bearsName ∈ ALL := mr3 (List.mem_of_getElem? (i := 47) rfl) rfl
theorem q940 : Cond.code yX5_bearsName prog_10_method_14_code 1 (Option.some Jvm.ClassFile.FieldType.boolean) ∈ ALL := mr3 (List.mem_of_getElem? (i := 48) rfl) rfl
theorem q941 : Cond.methodLink "ControlText$Writer" 103 yX5_number ∈ ALL := mr3 (List.mem_of_getElem? (i := 49) rfl) rfl
theorem q943 : Cond.instanceMethod yX5_number ∈ ALL := mr3 (List.mem_of_getElem? (i := 51) rfl) rfl
theorem q944 : Cond.code yX5_number prog_10_method_23_code 2 (Option.none : Option Jvm.ClassFile.FieldType) ∈ ALL := mr3 (List.mem_of_getElem? (i := 52) rfl) rfl
theorem q945 : Cond.methodLink "ControlText$Writer" 148 yX10_abs ∈ ALL := mr3 (List.mem_of_getElem? (i := 53) rfl) rfl
theorem q946 : Cond.static yX10_abs ∈ ALL := mr3 (List.mem_of_getElem? (i := 54) rfl) rfl
theorem q947 : Cond.code yX10_abs prog_13_method_59_code 1 (Option.some Jvm.ClassFile.FieldType.int) ∈ ALL := mr3 (List.mem_of_getElem? (i := 55) rfl) rfl
theorem q948 : Cond.methodLink "ControlText$Writer" 153 yX5_digits ∈ ALL := mr3 (List.mem_of_getElem? (i := 56) rfl) rfl
theorem q950 : Cond.instanceMethod yX5_digits ∈ ALL := mr3 (List.mem_of_getElem? (i := 58) rfl) rfl
theorem q951 : Cond.code yX5_digits prog_10_method_25_code 3 (Option.none : Option Jvm.ClassFile.FieldType) ∈ ALL := mr3 (List.mem_of_getElem? (i := 59) rfl) rfl
theorem q952 : Cond.constant "ControlText$Writer" 156 1000000000 ∈ ALL := mr3 (List.mem_of_getElem? (i := 60) rfl) rfl
theorem q953 : Cond.methodLink "ControlText$Writer" 106 yX5_place ∈ ALL := mr3 (List.mem_of_getElem? (i := 61) rfl) rfl
theorem q955 : Cond.instanceMethod yX5_place ∈ ALL := mr3 (List.mem_of_getElem? (i := 63) rfl) rfl
theorem q956 : Cond.code yX5_place prog_10_method_24_code 4 (Option.none : Option Jvm.ClassFile.FieldType) ∈ ALL := mr3 (List.mem_of_getElem? (i := 64) rfl) rfl
theorem q957 : Cond.methodLink "ControlText$Writer" 109 yX5_nextToken ∈ ALL := mr3 (List.mem_of_getElem? (i := 65) rfl) rfl
theorem q958 : Cond.static yX5_nextToken ∈ ALL := mr3 (List.mem_of_getElem? (i := 66) rfl) rfl
theorem q959 : Cond.code yX5_nextToken prog_10_method_15_code 2 (Option.some Jvm.ClassFile.FieldType.int) ∈ ALL := mr3 (List.mem_of_getElem? (i := 67) rfl) rfl
theorem q960 : Cond.methodLink "ControlText$Writer" 115 yX5_coilSign ∈ ALL := mr3 (List.mem_of_getElem? (i := 68) rfl) rfl
theorem q961 : Cond.static yX5_coilSign ∈ ALL := mr3 (List.mem_of_getElem? (i := 69) rfl) rfl
theorem q962 : Cond.code yX5_coilSign prog_10_method_13_code 1 (Option.some Jvm.ClassFile.FieldType.int) ∈ ALL := mr3 (List.mem_of_getElem? (i := 70) rfl) rfl
theorem q963 : Cond.methodLink "ControlTextLaw" 53 yX6_byteAt ∈ ALL := mr3 (List.mem_of_getElem? (i := 71) rfl) rfl
theorem q964 : Cond.instanceMethod yX6_byteAt ∈ ALL := mr3 (List.mem_of_getElem? (i := 72) rfl) rfl
theorem q965 : Cond.selects "ControlText" yX6_byteAt yX6_byteAt ∈ ALL := mr3 (List.mem_of_getElem? (i := 73) rfl) rfl
theorem q966 : Cond.code yX6_byteAt prog_1_method_12_code 2 (Option.some Jvm.ClassFile.FieldType.int) ∈ ALL := mr3 (List.mem_of_getElem? (i := 74) rfl) rfl
theorem q967 : Cond.methodLink "ControlText" 124 yX0_get ∈ ALL := mr3 (List.mem_of_getElem? (i := 75) rfl) rfl
theorem q968 : Cond.methodLink "ControlTextLaw" 57 yX6_back ∈ ALL := mr3 (List.mem_of_getElem? (i := 76) rfl) rfl
theorem q969 : Cond.instanceMethod yX6_back ∈ ALL := mr3 (List.mem_of_getElem? (i := 77) rfl) rfl
theorem q970 : Cond.selects "ControlText" yX6_back yX6_back ∈ ALL := mr3 (List.mem_of_getElem? (i := 78) rfl) rfl
theorem q971 : Cond.code yX6_back prog_1_method_13_code 2 (Option.some Jvm.ClassFile.FieldType.int) ∈ ALL := mr3 (List.mem_of_getElem? (i := 79) rfl) rfl
theorem q972 : Cond.classLink "ControlTextLaw" 10 "ControlTextModel" ∈ ALL := mr3 (List.mem_of_getElem? (i := 80) rfl) rfl
theorem q973 : Cond.instantiable "ControlTextModel" 48 ∈ ALL := mr3 (List.mem_of_getElem? (i := 81) rfl) rfl
theorem q974 : Cond.methodLink "ControlTextLaw" 12 yX8_init ∈ ALL := mr3 (List.mem_of_getElem? (i := 82) rfl) rfl
theorem q975 : Cond.instanceMethod yX8_init ∈ ALL := mr3 (List.mem_of_getElem? (i := 83) rfl) rfl
theorem q976 : Cond.code yX8_init prog_12_method_1_code 3 (Option.none : Option Jvm.ClassFile.FieldType) ∈ ALL := mr3 (List.mem_of_getElem? (i := 84) rfl) rfl
theorem q977 : Cond.methodLink "ControlTextModel" 1 ⟨"java/lang/Object", "<init>", "()V"⟩ ∈ ALL := mr3 (List.mem_of_getElem? (i := 85) rfl) rfl
theorem q978 : Cond.fieldLink "ControlTextModel" 7 "ControlTextModel" "letters" "[I" ∈ ALL := mr3 (List.mem_of_getElem? (i := 86) rfl) rfl
theorem q979 : Cond.fieldLink "ControlTextModel" 13 "ControlTextModel" "wordAt" "[I" ∈ ALL := mr3 (List.mem_of_getElem? (i := 87) rfl) rfl
theorem q980 : Cond.fieldLink "ControlTextModel" 16 "ControlTextModel" "signs" "[I" ∈ ALL := mr3 (List.mem_of_getElem? (i := 88) rfl) rfl
theorem q981 : Cond.fieldLink "ControlTextModel" 19 "ControlTextModel" "places" "[I" ∈ ALL := mr3 (List.mem_of_getElem? (i := 89) rfl) rfl
theorem q982 : Cond.fieldLink "ControlTextModel" 86 "ControlTextModel" "size" "I" ∈ ALL := mr3 (List.mem_of_getElem? (i := 90) rfl) rfl
theorem q983 : Cond.fieldLink "ControlTextModel" 22 "ControlTextModel" "text" "[I" ∈ ALL := mr3 (List.mem_of_getElem? (i := 91) rfl) rfl
theorem q984 : Cond.fieldLink "ControlTextModel" 119 "ControlTextModel" "begin" "I" ∈ ALL := mr3 (List.mem_of_getElem? (i := 92) rfl) rfl
theorem q985 : Cond.fieldLink "ControlTextModel" 126 "ControlTextModel" "token" "I" ∈ ALL := mr3 (List.mem_of_getElem? (i := 93) rfl) rfl
theorem q986 : Cond.fieldLink "ControlTextModel" 132 "ControlTextModel" "worth" "I" ∈ ALL := mr3 (List.mem_of_getElem? (i := 94) rfl) rfl
theorem q987 : Cond.fieldLink "ControlTextModel" 103 "ControlTextModel" "next" "I" ∈ ALL := mr3 (List.mem_of_getElem? (i := 95) rfl) rfl
theorem q988 : Cond.fieldLink "ControlTextModel" 166 "ControlTextModel" "lastPlace" "I" ∈ ALL := mr3 (List.mem_of_getElem? (i := 96) rfl) rfl
theorem q989 : Cond.fieldLink "ControlTextModel" 100 "ControlTextModel" "fault" "I" ∈ ALL := mr3 (List.mem_of_getElem? (i := 97) rfl) rfl
theorem q990 : Cond.fieldLink "ControlTextModel" 25 "ControlTextModel" "faultPlace" "I" ∈ ALL := mr3 (List.mem_of_getElem? (i := 98) rfl) rfl
theorem q991 : Cond.fieldLink "ControlTextModel" 113 "ControlTextModel" "names" "I" ∈ ALL := mr3 (List.mem_of_getElem? (i := 99) rfl) rfl
theorem q992 : Cond.fieldLink "ControlTextModel" 29 "ControlTextModel" "nameAt" "[I" ∈ ALL := mr3 (List.mem_of_getElem? (i := 100) rfl) rfl
theorem q993 : Cond.fieldLink "ControlTextModel" 32 "ControlTextModel" "nameBytes" "[I" ∈ ALL := mr3 (List.mem_of_getElem? (i := 101) rfl) rfl
theorem q994 : Cond.fieldLink "ControlTextModel" 185 "ControlTextModel" "nodes" "I" ∈ ALL := mr3 (List.mem_of_getElem? (i := 102) rfl) rfl
theorem q995 : Cond.fieldLink "ControlTextModel" 35 "ControlTextModel" "kinds" "[I" ∈ ALL := mr3 (List.mem_of_getElem? (i := 103) rfl) rfl
theorem q996 : Cond.fieldLink "ControlTextModel" 38 "ControlTextModel" "where" "[I" ∈ ALL := mr3 (List.mem_of_getElem? (i := 104) rfl) rfl
theorem q997 : Cond.fieldLink "ControlTextModel" 41 "ControlTextModel" "values" "[I" ∈ ALL := mr3 (List.mem_of_getElem? (i := 105) rfl) rfl
theorem q998 : Cond.fieldLink "ControlTextModel" 44 "ControlTextModel" "parents" "[I" ∈ ALL := mr3 (List.mem_of_getElem? (i := 106) rfl) rfl
theorem q999 : Cond.fieldLink "ControlTextModel" 47 "ControlTextModel" "firsts" "[I" ∈ ALL := mr3 (List.mem_of_getElem? (i := 107) rfl) rfl
theorem q1000 : Cond.fieldLink "ControlTextModel" 50 "ControlTextModel" "lasts" "[I" ∈ ALL := mr3 (List.mem_of_getElem? (i := 108) rfl) rfl
theorem q1001 : Cond.fieldLink "ControlTextModel" 53 "ControlTextModel" "siblings" "[I" ∈ ALL := mr3 (List.mem_of_getElem? (i := 109) rfl) rfl
theorem q1002 : Cond.fieldLink "ControlTextModel" 192 "ControlTextModel" "current" "I" ∈ ALL := mr3 (List.mem_of_getElem? (i := 110) rfl) rfl
theorem q1003 : Cond.fieldLink "ControlTextModel" 198 "ControlTextModel" "due" "I" ∈ ALL := mr3 (List.mem_of_getElem? (i := 111) rfl) rfl
theorem q1004 : Cond.fieldLink "ControlTextModel" 56 "ControlTextModel" "dues" "[I" ∈ ALL := mr3 (List.mem_of_getElem? (i := 112) rfl) rfl
theorem q1005 : Cond.fieldLink "ControlTextModel" 214 "ControlTextModel" "open" "I" ∈ ALL := mr3 (List.mem_of_getElem? (i := 113) rfl) rfl
theorem q1006 : Cond.fieldLink "ControlTextModel" 308 "ControlTextModel" "signsOpen" "I" ∈ ALL := mr3 (List.mem_of_getElem? (i := 114) rfl) rfl
theorem q1007 : Cond.fieldLink "ControlTextModel" 274 "ControlTextModel" "inner" "I" ∈ ALL := mr3 (List.mem_of_getElem? (i := 115) rfl) rfl
theorem q1008 : Cond.fieldLink "ControlTextModel" 217 "ControlTextModel" "namePlace" "I" ∈ ALL := mr3 (List.mem_of_getElem? (i := 116) rfl) rfl
theorem q1009 : Cond.fieldLink "ControlTextModel" 220 "ControlTextModel" "nameNumber" "I" ∈ ALL := mr3 (List.mem_of_getElem? (i := 117) rfl) rfl
theorem q1010 : Cond.fieldLink "ControlTextModel" 244 "ControlTextModel" "minusPlace" "I" ∈ ALL := mr3 (List.mem_of_getElem? (i := 118) rfl) rfl
theorem q1011 : Cond.fieldLink "ControlTextModel" 268 "ControlTextModel" "operands" "I" ∈ ALL := mr3 (List.mem_of_getElem? (i := 119) rfl) rfl
theorem q1012 : Cond.fieldLink "ControlTextModel" 59 "ControlTextModel" "operand" "[I" ∈ ALL := mr3 (List.mem_of_getElem? (i := 120) rfl) rfl
theorem q1013 : Cond.fieldLink "ControlTextModel" 271 "ControlTextModel" "waiting" "I" ∈ ALL := mr3 (List.mem_of_getElem? (i := 121) rfl) rfl
theorem q1014 : Cond.fieldLink "ControlTextModel" 62 "ControlTextModel" "waitingSign" "[I" ∈ ALL := mr3 (List.mem_of_getElem? (i := 122) rfl) rfl
theorem q1015 : Cond.fieldLink "ControlTextModel" 65 "ControlTextModel" "waitingPlace" "[I" ∈ ALL := mr3 (List.mem_of_getElem? (i := 123) rfl) rfl
theorem q1016 : Cond.fieldLink "ControlTextModel" 293 "ControlTextModel" "beginnings" "I" ∈ ALL := mr3 (List.mem_of_getElem? (i := 124) rfl) rfl
theorem q1017 : Cond.fieldLink "ControlTextModel" 68 "ControlTextModel" "beginning" "[I" ∈ ALL := mr3 (List.mem_of_getElem? (i := 125) rfl) rfl
theorem q1018 : Cond.fieldLink "ControlTextModel" 428 "ControlTextModel" "count" "I" ∈ ALL := mr3 (List.mem_of_getElem? (i := 126) rfl) rfl
theorem q1019 : Cond.fieldLink "ControlTextModel" 71 "ControlTextModel" "byNumber" "[I" ∈ ALL := mr3 (List.mem_of_getElem? (i := 127) rfl) rfl
theorem q1020 : Cond.fieldLink "ControlTextModel" 74 "ControlTextModel" "numberOf" "[I" ∈ ALL := mr3 (List.mem_of_getElem? (i := 128) rfl) rfl
theorem q1021 : Cond.fieldLink "ControlTextModel" 440 "ControlTextModel" "writtenSize" "I" ∈ ALL := mr3 (List.mem_of_getElem? (i := 129) rfl) rfl
theorem q1022 : Cond.fieldLink "ControlTextModel" 77 "ControlTextModel" "written" "[I" ∈ ALL := mr3 (List.mem_of_getElem? (i := 130) rfl) rfl
theorem q1023 : Cond.fieldLink "ControlTextModel" 446 "ControlTextModel" "items" "I" ∈ ALL := mr3 (List.mem_of_getElem? (i := 131) rfl) rfl
theorem q1024 : Cond.fieldLink "ControlTextModel" 80 "ControlTextModel" "itemKind" "[I" ∈ ALL := mr3 (List.mem_of_getElem? (i := 132) rfl) rfl
theorem q1025 : Cond.fieldLink "ControlTextModel" 83 "ControlTextModel" "itemOf" "[I" ∈ ALL := mr3 (List.mem_of_getElem? (i := 133) rfl) rfl
theorem q1026 : Cond.laysFinal "ControlTextModel" "ControlTextModel" "letters" "[I" ∈ ALL := mr3 (List.mem_of_getElem? (i := 134) rfl) rfl
theorem q1028 : Cond.laysFinal "ControlTextModel" "ControlTextModel" "wordAt" "[I" ∈ ALL := mr3 (List.mem_of_getElem? (i := 136) rfl) rfl
theorem q1030 : Cond.laysFinal "ControlTextModel" "ControlTextModel" "signs" "[I" ∈ ALL := mr3 (List.mem_of_getElem? (i := 138) rfl) rfl
theorem q1032 : Cond.laysFinal "ControlTextModel" "ControlTextModel" "places" "[I" ∈ ALL := mr3 (List.mem_of_getElem? (i := 140) rfl) rfl
theorem q1034 : Cond.lays "ControlTextModel" "ControlTextModel" "size" "I" ∈ ALL := mr3 (List.mem_of_getElem? (i := 142) rfl) rfl
theorem q1036 : Cond.laysFinal "ControlTextModel" "ControlTextModel" "text" "[I" ∈ ALL := mr3 (List.mem_of_getElem? (i := 144) rfl) rfl
theorem q1038 : Cond.lays "ControlTextModel" "ControlTextModel" "begin" "I" ∈ ALL := mr3 (List.mem_of_getElem? (i := 146) rfl) rfl
theorem q1040 : Cond.lays "ControlTextModel" "ControlTextModel" "token" "I" ∈ ALL := mr3 (List.mem_of_getElem? (i := 148) rfl) rfl
theorem q1042 : Cond.lays "ControlTextModel" "ControlTextModel" "worth" "I" ∈ ALL := mr3 (List.mem_of_getElem? (i := 150) rfl) rfl
theorem q1044 : Cond.lays "ControlTextModel" "ControlTextModel" "next" "I" ∈ ALL := mr3 (List.mem_of_getElem? (i := 152) rfl) rfl
theorem q1046 : Cond.lays "ControlTextModel" "ControlTextModel" "lastPlace" "I" ∈ ALL := mr3 (List.mem_of_getElem? (i := 154) rfl) rfl
theorem q1048 : Cond.lays "ControlTextModel" "ControlTextModel" "fault" "I" ∈ ALL := mr3 (List.mem_of_getElem? (i := 156) rfl) rfl
theorem q1050 : Cond.lays "ControlTextModel" "ControlTextModel" "faultPlace" "I" ∈ ALL := mr3 (List.mem_of_getElem? (i := 158) rfl) rfl
theorem q1052 : Cond.lays "ControlTextModel" "ControlTextModel" "names" "I" ∈ ALL := mr3 (List.mem_of_getElem? (i := 160) rfl) rfl
theorem q1054 : Cond.laysFinal "ControlTextModel" "ControlTextModel" "nameAt" "[I" ∈ ALL := mr3 (List.mem_of_getElem? (i := 162) rfl) rfl
theorem q1056 : Cond.laysFinal "ControlTextModel" "ControlTextModel" "nameBytes" "[I" ∈ ALL := mr3 (List.mem_of_getElem? (i := 164) rfl) rfl
theorem q1058 : Cond.lays "ControlTextModel" "ControlTextModel" "nodes" "I" ∈ ALL := mr3 (List.mem_of_getElem? (i := 166) rfl) rfl
theorem q1060 : Cond.laysFinal "ControlTextModel" "ControlTextModel" "kinds" "[I" ∈ ALL := mr3 (List.mem_of_getElem? (i := 168) rfl) rfl
theorem q1062 : Cond.laysFinal "ControlTextModel" "ControlTextModel" "where" "[I" ∈ ALL := mr3 (List.mem_of_getElem? (i := 170) rfl) rfl
theorem q1064 : Cond.laysFinal "ControlTextModel" "ControlTextModel" "values" "[I" ∈ ALL := mr3 (List.mem_of_getElem? (i := 172) rfl) rfl
theorem q1066 : Cond.laysFinal "ControlTextModel" "ControlTextModel" "parents" "[I" ∈ ALL := mr3 (List.mem_of_getElem? (i := 174) rfl) rfl
theorem q1068 : Cond.laysFinal "ControlTextModel" "ControlTextModel" "firsts" "[I" ∈ ALL := mr3 (List.mem_of_getElem? (i := 176) rfl) rfl
theorem q1070 : Cond.laysFinal "ControlTextModel" "ControlTextModel" "lasts" "[I" ∈ ALL := mr3 (List.mem_of_getElem? (i := 178) rfl) rfl
theorem q1072 : Cond.laysFinal "ControlTextModel" "ControlTextModel" "siblings" "[I" ∈ ALL := mr3 (List.mem_of_getElem? (i := 180) rfl) rfl
theorem q1074 : Cond.lays "ControlTextModel" "ControlTextModel" "current" "I" ∈ ALL := mr3 (List.mem_of_getElem? (i := 182) rfl) rfl
theorem q1076 : Cond.lays "ControlTextModel" "ControlTextModel" "due" "I" ∈ ALL := mr3 (List.mem_of_getElem? (i := 184) rfl) rfl
theorem q1078 : Cond.laysFinal "ControlTextModel" "ControlTextModel" "dues" "[I" ∈ ALL := mr3 (List.mem_of_getElem? (i := 186) rfl) rfl
theorem q1080 : Cond.lays "ControlTextModel" "ControlTextModel" "open" "I" ∈ ALL := mr3 (List.mem_of_getElem? (i := 188) rfl) rfl
theorem q1082 : Cond.lays "ControlTextModel" "ControlTextModel" "signsOpen" "I" ∈ ALL := mr3 (List.mem_of_getElem? (i := 190) rfl) rfl
theorem q1084 : Cond.lays "ControlTextModel" "ControlTextModel" "inner" "I" ∈ ALL := mr3 (List.mem_of_getElem? (i := 192) rfl) rfl
theorem q1086 : Cond.lays "ControlTextModel" "ControlTextModel" "namePlace" "I" ∈ ALL := mr3 (List.mem_of_getElem? (i := 194) rfl) rfl
theorem q1088 : Cond.lays "ControlTextModel" "ControlTextModel" "nameNumber" "I" ∈ ALL := mr3 (List.mem_of_getElem? (i := 196) rfl) rfl
theorem q1090 : Cond.lays "ControlTextModel" "ControlTextModel" "minusPlace" "I" ∈ ALL := mr3 (List.mem_of_getElem? (i := 198) rfl) rfl
theorem q1092 : Cond.lays "ControlTextModel" "ControlTextModel" "operands" "I" ∈ ALL := mr3 (List.mem_of_getElem? (i := 200) rfl) rfl
theorem q1094 : Cond.laysFinal "ControlTextModel" "ControlTextModel" "operand" "[I" ∈ ALL := mr3 (List.mem_of_getElem? (i := 202) rfl) rfl
theorem q1096 : Cond.lays "ControlTextModel" "ControlTextModel" "waiting" "I" ∈ ALL := mr3 (List.mem_of_getElem? (i := 204) rfl) rfl
theorem q1098 : Cond.laysFinal "ControlTextModel" "ControlTextModel" "waitingSign" "[I" ∈ ALL := mr3 (List.mem_of_getElem? (i := 206) rfl) rfl
theorem q1100 : Cond.laysFinal "ControlTextModel" "ControlTextModel" "waitingPlace" "[I" ∈ ALL := mr3 (List.mem_of_getElem? (i := 208) rfl) rfl
theorem q1102 : Cond.lays "ControlTextModel" "ControlTextModel" "beginnings" "I" ∈ ALL := mr3 (List.mem_of_getElem? (i := 210) rfl) rfl
theorem q1104 : Cond.laysFinal "ControlTextModel" "ControlTextModel" "beginning" "[I" ∈ ALL := mr3 (List.mem_of_getElem? (i := 212) rfl) rfl
theorem q1106 : Cond.lays "ControlTextModel" "ControlTextModel" "count" "I" ∈ ALL := mr3 (List.mem_of_getElem? (i := 214) rfl) rfl
theorem q1108 : Cond.laysFinal "ControlTextModel" "ControlTextModel" "byNumber" "[I" ∈ ALL := mr3 (List.mem_of_getElem? (i := 216) rfl) rfl
theorem q1110 : Cond.laysFinal "ControlTextModel" "ControlTextModel" "numberOf" "[I" ∈ ALL := mr3 (List.mem_of_getElem? (i := 218) rfl) rfl
theorem q1112 : Cond.lays "ControlTextModel" "ControlTextModel" "writtenSize" "I" ∈ ALL := mr3 (List.mem_of_getElem? (i := 220) rfl) rfl
theorem q1114 : Cond.laysFinal "ControlTextModel" "ControlTextModel" "written" "[I" ∈ ALL := mr3 (List.mem_of_getElem? (i := 222) rfl) rfl
theorem q1116 : Cond.lays "ControlTextModel" "ControlTextModel" "items" "I" ∈ ALL := mr3 (List.mem_of_getElem? (i := 224) rfl) rfl
theorem q1118 : Cond.laysFinal "ControlTextModel" "ControlTextModel" "itemKind" "[I" ∈ ALL := mr3 (List.mem_of_getElem? (i := 226) rfl) rfl
theorem q1120 : Cond.laysFinal "ControlTextModel" "ControlTextModel" "itemOf" "[I" ∈ ALL := mr3 (List.mem_of_getElem? (i := 228) rfl) rfl
theorem q1123 : Cond.methodLink "ControlTextLaw" 17 yX8_clear ∈ ALL := mr3 (List.mem_of_getElem? (i := 231) rfl) rfl
theorem q1124 : Cond.instanceMethod yX8_clear ∈ ALL := mr3 (List.mem_of_getElem? (i := 232) rfl) rfl
theorem q1125 : Cond.selects "ControlTextModel" yX8_clear yX8_clear ∈ ALL := mr3 (List.mem_of_getElem? (i := 233) rfl) rfl
theorem q1126 : Cond.code yX8_clear prog_12_method_7_code 2 (Option.some Jvm.ClassFile.FieldType.int) ∈ ALL := mr3 (List.mem_of_getElem? (i := 234) rfl) rfl
theorem q1127 : Cond.methodLink "ControlTextLaw" 22 yX8_feed ∈ ALL := mr3 (List.mem_of_getElem? (i := 235) rfl) rfl
theorem q1128 : Cond.instanceMethod yX8_feed ∈ ALL := mr3 (List.mem_of_getElem? (i := 236) rfl) rfl
theorem q1129 : Cond.selects "ControlTextModel" yX8_feed yX8_feed ∈ ALL := mr3 (List.mem_of_getElem? (i := 237) rfl) rfl
theorem q1130 : Cond.code yX8_feed prog_12_method_8_code 8 (Option.some Jvm.ClassFile.FieldType.int) ∈ ALL := mr3 (List.mem_of_getElem? (i := 238) rfl) rfl
theorem q1131 : Cond.methodLink "ControlTextLaw" 27 yX8_end ∈ ALL := mr3 (List.mem_of_getElem? (i := 239) rfl) rfl
theorem q1132 : Cond.instanceMethod yX8_end ∈ ALL := mr4 (List.mem_of_getElem? (i := 0) rfl) rfl
theorem q1133 : Cond.selects "ControlTextModel" yX8_end yX8_end ∈ ALL := mr4 (List.mem_of_getElem? (i := 1) rfl) rfl
theorem q1134 : Cond.code yX8_end prog_12_method_9_code 2 (Option.some Jvm.ClassFile.FieldType.int) ∈ ALL := mr4 (List.mem_of_getElem? (i := 2) rfl) rfl
theorem q1135 : Cond.methodLink "ControlTextLaw" 32 yX8_change ∈ ALL := mr4 (List.mem_of_getElem? (i := 3) rfl) rfl
theorem q1136 : Cond.instanceMethod yX8_change ∈ ALL := mr4 (List.mem_of_getElem? (i := 4) rfl) rfl
theorem q1137 : Cond.selects "ControlTextModel" yX8_change yX8_change ∈ ALL := mr4 (List.mem_of_getElem? (i := 5) rfl) rfl
theorem q1138 : Cond.code yX8_change prog_12_method_10_code 4 (Option.some Jvm.ClassFile.FieldType.int) ∈ ALL := mr4 (List.mem_of_getElem? (i := 6) rfl) rfl
theorem q1139 : Cond.methodLink "ControlTextLaw" 36 yX8_read ∈ ALL := mr4 (List.mem_of_getElem? (i := 7) rfl) rfl
theorem q1140 : Cond.instanceMethod yX8_read ∈ ALL := mr4 (List.mem_of_getElem? (i := 8) rfl) rfl
theorem q1141 : Cond.selects "ControlTextModel" yX8_read yX8_read ∈ ALL := mr4 (List.mem_of_getElem? (i := 9) rfl) rfl
theorem q1142 : Cond.code yX8_read prog_12_method_92_code 1 (Option.some Jvm.ClassFile.FieldType.int) ∈ ALL := mr4 (List.mem_of_getElem? (i := 10) rfl) rfl
theorem q1143 : Cond.methodLink "ControlTextModel" 188 yX8_make ∈ ALL := mr4 (List.mem_of_getElem? (i := 11) rfl) rfl
theorem q1145 : Cond.instanceMethod yX8_make ∈ ALL := mr4 (List.mem_of_getElem? (i := 13) rfl) rfl
theorem q1146 : Cond.code yX8_make prog_12_method_23_code 4 (Option.some Jvm.ClassFile.FieldType.int) ∈ ALL := mr4 (List.mem_of_getElem? (i := 14) rfl) rfl
theorem q1147 : Cond.methodLink "ControlTextModel" 201 yX8_push ∈ ALL := mr4 (List.mem_of_getElem? (i := 15) rfl) rfl
theorem q1149 : Cond.instanceMethod yX8_push ∈ ALL := mr4 (List.mem_of_getElem? (i := 17) rfl) rfl
theorem q1150 : Cond.code yX8_push prog_12_method_27_code 2 (Option.none : Option Jvm.ClassFile.FieldType) ∈ ALL := mr4 (List.mem_of_getElem? (i := 18) rfl) rfl
theorem q1151 : Cond.methodLink "ControlTextModel" 208 yX8_step ∈ ALL := mr4 (List.mem_of_getElem? (i := 19) rfl) rfl
theorem q1153 : Cond.instanceMethod yX8_step ∈ ALL := mr4 (List.mem_of_getElem? (i := 21) rfl) rfl
theorem q1154 : Cond.code yX8_step prog_12_method_22_code 2 (Option.none : Option Jvm.ClassFile.FieldType) ∈ ALL := mr4 (List.mem_of_getElem? (i := 22) rfl) rfl
theorem q1155 : Cond.methodLink "ControlTextModel" 169 yX8_skip ∈ ALL := mr4 (List.mem_of_getElem? (i := 23) rfl) rfl
theorem q1157 : Cond.instanceMethod yX8_skip ∈ ALL := mr4 (List.mem_of_getElem? (i := 25) rfl) rfl
theorem q1158 : Cond.code yX8_skip prog_12_method_12_code 4 (Option.none : Option Jvm.ClassFile.FieldType) ∈ ALL := mr4 (List.mem_of_getElem? (i := 26) rfl) rfl
theorem q1159 : Cond.methodLink "ControlTextModel" 89 yX8_at ∈ ALL := mr4 (List.mem_of_getElem? (i := 27) rfl) rfl
theorem q1161 : Cond.instanceMethod yX8_at ∈ ALL := mr4 (List.mem_of_getElem? (i := 29) rfl) rfl
theorem q1162 : Cond.code yX8_at prog_12_method_5_code 2 (Option.some Jvm.ClassFile.FieldType.int) ∈ ALL := mr4 (List.mem_of_getElem? (i := 30) rfl) rfl
theorem q1163 : Cond.methodLink "ControlTextModel" 106 yX8_fail ∈ ALL := mr4 (List.mem_of_getElem? (i := 31) rfl) rfl
theorem q1165 : Cond.instanceMethod yX8_fail ∈ ALL := mr4 (List.mem_of_getElem? (i := 33) rfl) rfl
theorem q1166 : Cond.code yX8_fail prog_12_method_11_code 3 (Option.none : Option Jvm.ClassFile.FieldType) ∈ ALL := mr4 (List.mem_of_getElem? (i := 34) rfl) rfl
theorem q1167 : Cond.methodLink "ControlTextModel" 172 yX8_readNumber ∈ ALL := mr4 (List.mem_of_getElem? (i := 35) rfl) rfl
theorem q1169 : Cond.instanceMethod yX8_readNumber ∈ ALL := mr4 (List.mem_of_getElem? (i := 37) rfl) rfl
theorem q1170 : Cond.code yX8_readNumber prog_12_method_19_code 7 (Option.none : Option Jvm.ClassFile.FieldType) ∈ ALL := mr4 (List.mem_of_getElem? (i := 38) rfl) rfl
theorem q1171 : Cond.methodLink "ControlTextModel" 148 yX8_digits ∈ ALL := mr4 (List.mem_of_getElem? (i := 39) rfl) rfl
theorem q1173 : Cond.instanceMethod yX8_digits ∈ ALL := mr4 (List.mem_of_getElem? (i := 41) rfl) rfl
theorem q1174 : Cond.code yX8_digits prog_12_method_17_code 5 (Option.some Jvm.ClassFile.FieldType.long) ∈ ALL := mr4 (List.mem_of_getElem? (i := 42) rfl) rfl
theorem q1175 : Cond.methodLink "ControlTextModel" 135 yX8_digitOf ∈ ALL := mr4 (List.mem_of_getElem? (i := 43) rfl) rfl
theorem q1176 : Cond.static yX8_digitOf ∈ ALL := mr4 (List.mem_of_getElem? (i := 44) rfl) rfl
theorem q1177 : Cond.code yX8_digitOf prog_12_method_16_code 2 (Option.some Jvm.ClassFile.FieldType.int) ∈ ALL := mr4 (List.mem_of_getElem? (i := 45) rfl) rfl
theorem q1178 : Cond.methodLink "ControlTextModel" 110 yX8_great ∈ ALL := mr4 (List.mem_of_getElem? (i := 46) rfl) rfl
theorem q1179 : Cond.static yX8_great ∈ ALL := mr4 (List.mem_of_getElem? (i := 47) rfl) rfl
theorem q1180 : Cond.code yX8_great prog_12_method_4_code 1 (Option.some Jvm.ClassFile.FieldType.int) ∈ ALL := mr4 (List.mem_of_getElem? (i := 48) rfl) rfl
theorem q1181 : Cond.methodLink "ControlTextModel" 97 yX8_isDigit ∈ ALL := mr4 (List.mem_of_getElem? (i := 49) rfl) rfl
theorem q1182 : Cond.static yX8_isDigit ∈ ALL := mr4 (List.mem_of_getElem? (i := 50) rfl) rfl
theorem q1183 : Cond.code yX8_isDigit prog_12_method_3_code 1 (Option.some Jvm.ClassFile.FieldType.boolean) ∈ ALL := mr4 (List.mem_of_getElem? (i := 51) rfl) rfl
theorem q1184 : Cond.constantLong "ControlTextModel" 138 1000000000000 ∈ ALL := mr4 (List.mem_of_getElem? (i := 52) rfl) rfl
theorem q1185 : Cond.constantLong "ControlTextModel" 140 (-1) ∈ ALL := mr4 (List.mem_of_getElem? (i := 53) rfl) rfl
theorem q1186 : Cond.methodLink "ControlTextModel" 152 yX8_unit ∈ ALL := mr4 (List.mem_of_getElem? (i := 54) rfl) rfl
theorem q1188 : Cond.instanceMethod yX8_unit ∈ ALL := mr4 (List.mem_of_getElem? (i := 56) rfl) rfl
theorem q1189 : Cond.code yX8_unit prog_12_method_18_code 3 (Option.some Jvm.ClassFile.FieldType.long) ∈ ALL := mr4 (List.mem_of_getElem? (i := 57) rfl) rfl
theorem q1190 : Cond.constantLong "ControlTextModel" 142 1000 ∈ ALL := mr4 (List.mem_of_getElem? (i := 58) rfl) rfl
theorem q1191 : Cond.constantLong "ControlTextModel" 144 60000 ∈ ALL := mr4 (List.mem_of_getElem? (i := 59) rfl) rfl
theorem q1192 : Cond.constantLong "ControlTextModel" 146 3600000 ∈ ALL := mr4 (List.mem_of_getElem? (i := 60) rfl) rfl
theorem q1193 : Cond.constantLong "ControlTextModel" 156 16 ∈ ALL := mr4 (List.mem_of_getElem? (i := 61) rfl) rfl
theorem q1194 : Cond.constantLong "ControlTextModel" 158 2 ∈ ALL := mr4 (List.mem_of_getElem? (i := 62) rfl) rfl
theorem q1195 : Cond.methodLink "ControlTextModel" 116 yX8_goesOn ∈ ALL := mr4 (List.mem_of_getElem? (i := 63) rfl) rfl
theorem q1197 : Cond.instanceMethod yX8_goesOn ∈ ALL := mr4 (List.mem_of_getElem? (i := 65) rfl) rfl
theorem q1198 : Cond.code yX8_goesOn prog_12_method_6_code 2 (Option.some Jvm.ClassFile.FieldType.boolean) ∈ ALL := mr4 (List.mem_of_getElem? (i := 66) rfl) rfl
theorem q1199 : Cond.methodLink "ControlTextModel" 93 yX8_isLetter ∈ ALL := mr4 (List.mem_of_getElem? (i := 67) rfl) rfl
theorem q1200 : Cond.static yX8_isLetter ∈ ALL := mr4 (List.mem_of_getElem? (i := 68) rfl) rfl
theorem q1201 : Cond.code yX8_isLetter prog_12_method_2_code 1 (Option.some Jvm.ClassFile.FieldType.boolean) ∈ ALL := mr4 (List.mem_of_getElem? (i := 69) rfl) rfl
theorem q1202 : Cond.constantLong "ControlTextModel" 160 2147483647 ∈ ALL := mr4 (List.mem_of_getElem? (i := 70) rfl) rfl
theorem q1203 : Cond.methodLink "ControlTextModel" 176 yX8_readName ∈ ALL := mr4 (List.mem_of_getElem? (i := 71) rfl) rfl
theorem q1205 : Cond.instanceMethod yX8_readName ∈ ALL := mr4 (List.mem_of_getElem? (i := 73) rfl) rfl
theorem q1206 : Cond.code yX8_readName prog_12_method_15_code 3 (Option.none : Option Jvm.ClassFile.FieldType) ∈ ALL := mr4 (List.mem_of_getElem? (i := 74) rfl) rfl
theorem q1207 : Cond.methodLink "ControlTextModel" 122 yX8_wordOf ∈ ALL := mr4 (List.mem_of_getElem? (i := 75) rfl) rfl
theorem q1209 : Cond.instanceMethod yX8_wordOf ∈ ALL := mr4 (List.mem_of_getElem? (i := 77) rfl) rfl
theorem q1210 : Cond.code yX8_wordOf prog_12_method_13_code 6 (Option.some Jvm.ClassFile.FieldType.int) ∈ ALL := mr4 (List.mem_of_getElem? (i := 78) rfl) rfl
theorem q1211 : Cond.methodLink "ControlTextModel" 129 yX8_nameOf ∈ ALL := mr4 (List.mem_of_getElem? (i := 79) rfl) rfl
theorem q1213 : Cond.instanceMethod yX8_nameOf ∈ ALL := mr4 (List.mem_of_getElem? (i := 81) rfl) rfl
theorem q1214 : Cond.code yX8_nameOf prog_12_method_14_code 6 (Option.some Jvm.ClassFile.FieldType.int) ∈ ALL := mr4 (List.mem_of_getElem? (i := 82) rfl) rfl
theorem q1215 : Cond.methodLink "ControlTextModel" 179 yX8_readPlace ∈ ALL := mr4 (List.mem_of_getElem? (i := 83) rfl) rfl
theorem q1217 : Cond.instanceMethod yX8_readPlace ∈ ALL := mr4 (List.mem_of_getElem? (i := 85) rfl) rfl
theorem q1218 : Cond.code yX8_readPlace prog_12_method_20_code 4 (Option.none : Option Jvm.ClassFile.FieldType) ∈ ALL := mr4 (List.mem_of_getElem? (i := 86) rfl) rfl
theorem q1219 : Cond.constantLong "ControlTextModel" 162 255 ∈ ALL := mr4 (List.mem_of_getElem? (i := 87) rfl) rfl
theorem q1220 : Cond.constantLong "ControlTextModel" 164 63 ∈ ALL := mr4 (List.mem_of_getElem? (i := 88) rfl) rfl
theorem q1221 : Cond.methodLink "ControlTextModel" 182 yX8_readSign ∈ ALL := mr4 (List.mem_of_getElem? (i := 89) rfl) rfl
theorem q1223 : Cond.instanceMethod yX8_readSign ∈ ALL := mr4 (List.mem_of_getElem? (i := 91) rfl) rfl
theorem q1224 : Cond.code yX8_readSign prog_12_method_21_code 5 (Option.none : Option Jvm.ClassFile.FieldType) ∈ ALL := mr4 (List.mem_of_getElem? (i := 92) rfl) rfl
theorem q1225 : Cond.methodLink "ControlTextModel" 434 yX8_act ∈ ALL := mr4 (List.mem_of_getElem? (i := 93) rfl) rfl
theorem q1227 : Cond.instanceMethod yX8_act ∈ ALL := mr4 (List.mem_of_getElem? (i := 95) rfl) rfl
theorem q1228 : Cond.code yX8_act prog_12_method_89_code 2 (Option.none : Option Jvm.ClassFile.FieldType) ∈ ALL := mr4 (List.mem_of_getElem? (i := 96) rfl) rfl
theorem q1229 : Cond.methodLink "ControlTextModel" 235 yX8_pass ∈ ALL := mr4 (List.mem_of_getElem? (i := 97) rfl) rfl
theorem q1231 : Cond.instanceMethod yX8_pass ∈ ALL := mr4 (List.mem_of_getElem? (i := 99) rfl) rfl
theorem q1232 : Cond.code yX8_pass prog_12_method_32_code 2 (Option.none : Option Jvm.ClassFile.FieldType) ∈ ALL := mr4 (List.mem_of_getElem? (i := 100) rfl) rfl
theorem q1233 : Cond.methodLink "ControlTextModel" 211 yX8_wrong ∈ ALL := mr4 (List.mem_of_getElem? (i := 101) rfl) rfl
theorem q1235 : Cond.instanceMethod yX8_wrong ∈ ALL := mr4 (List.mem_of_getElem? (i := 103) rfl) rfl
theorem q1236 : Cond.code yX8_wrong prog_12_method_31_code 1 (Option.none : Option Jvm.ClassFile.FieldType) ∈ ALL := mr4 (List.mem_of_getElem? (i := 104) rfl) rfl
theorem q1237 : Cond.methodLink "ControlTextModel" 416 yX8_actBlock ∈ ALL := mr4 (List.mem_of_getElem? (i := 105) rfl) rfl
theorem q1239 : Cond.instanceMethod yX8_actBlock ∈ ALL := mr4 (List.mem_of_getElem? (i := 107) rfl) rfl
theorem q1240 : Cond.code yX8_actBlock prog_12_method_84_code 2 (Option.none : Option Jvm.ClassFile.FieldType) ∈ ALL := mr4 (List.mem_of_getElem? (i := 108) rfl) rfl
theorem q1241 : Cond.methodLink "ControlTextModel" 317 yX8_blocks ∈ ALL := mr4 (List.mem_of_getElem? (i := 109) rfl) rfl
theorem q1243 : Cond.instanceMethod yX8_blocks ∈ ALL := mr4 (List.mem_of_getElem? (i := 111) rfl) rfl
theorem q1244 : Cond.code yX8_blocks prog_12_method_38_code 2 (Option.none : Option Jvm.ClassFile.FieldType) ∈ ALL := mr4 (List.mem_of_getElem? (i := 112) rfl) rfl
theorem q1245 : Cond.methodLink "ControlTextModel" 227 yX8_down ∈ ALL := mr4 (List.mem_of_getElem? (i := 113) rfl) rfl
theorem q1247 : Cond.instanceMethod yX8_down ∈ ALL := mr4 (List.mem_of_getElem? (i := 115) rfl) rfl
theorem q1248 : Cond.code yX8_down prog_12_method_26_code 5 (Option.none : Option Jvm.ClassFile.FieldType) ∈ ALL := mr4 (List.mem_of_getElem? (i := 116) rfl) rfl
theorem q1249 : Cond.methodLink "ControlTextModel" 195 yX8_hang ∈ ALL := mr4 (List.mem_of_getElem? (i := 117) rfl) rfl
theorem q1251 : Cond.instanceMethod yX8_hang ∈ ALL := mr4 (List.mem_of_getElem? (i := 119) rfl) rfl
theorem q1252 : Cond.code yX8_hang prog_12_method_24_code 3 (Option.none : Option Jvm.ClassFile.FieldType) ∈ ALL := mr4 (List.mem_of_getElem? (i := 120) rfl) rfl
theorem q1253 : Cond.methodLink "ControlTextModel" 231 yX8_push4 ∈ ALL := mr4 (List.mem_of_getElem? (i := 121) rfl) rfl
theorem q1255 : Cond.instanceMethod yX8_push4 ∈ ALL := mr4 (List.mem_of_getElem? (i := 123) rfl) rfl
theorem q1256 : Cond.code yX8_push4 prog_12_method_29_code 5 (Option.none : Option Jvm.ClassFile.FieldType) ∈ ALL := mr4 (List.mem_of_getElem? (i := 124) rfl) rfl
theorem q1257 : Cond.methodLink "ControlTextModel" 205 yX8_push2 ∈ ALL := mr4 (List.mem_of_getElem? (i := 125) rfl) rfl
theorem q1259 : Cond.instanceMethod yX8_push2 ∈ ALL := mr4 (List.mem_of_getElem? (i := 127) rfl) rfl
theorem q1260 : Cond.code yX8_push2 prog_12_method_28_code 3 (Option.none : Option Jvm.ClassFile.FieldType) ∈ ALL := mr4 (List.mem_of_getElem? (i := 128) rfl) rfl
theorem q1261 : Cond.methodLink "ControlTextModel" 259 yX8_up ∈ ALL := mr4 (List.mem_of_getElem? (i := 129) rfl) rfl
theorem q1263 : Cond.instanceMethod yX8_up ∈ ALL := mr4 (List.mem_of_getElem? (i := 131) rfl) rfl
theorem q1264 : Cond.code yX8_up prog_12_method_52_code 1 (Option.none : Option Jvm.ClassFile.FieldType) ∈ ALL := mr4 (List.mem_of_getElem? (i := 132) rfl) rfl
theorem q1265 : Cond.methodLink "ControlTextModel" 320 yX8_body ∈ ALL := mr4 (List.mem_of_getElem? (i := 133) rfl) rfl
theorem q1267 : Cond.instanceMethod yX8_body ∈ ALL := mr4 (List.mem_of_getElem? (i := 135) rfl) rfl
theorem q1268 : Cond.code yX8_body prog_12_method_41_code 1 (Option.none : Option Jvm.ClassFile.FieldType) ∈ ALL := mr4 (List.mem_of_getElem? (i := 136) rfl) rfl
theorem q1269 : Cond.methodLink "ControlTextModel" 323 yX8_sections ∈ ALL := mr4 (List.mem_of_getElem? (i := 137) rfl) rfl
theorem q1271 : Cond.instanceMethod yX8_sections ∈ ALL := mr4 (List.mem_of_getElem? (i := 139) rfl) rfl
theorem q1272 : Cond.code yX8_sections prog_12_method_40_code 1 (Option.none : Option Jvm.ClassFile.FieldType) ∈ ALL := mr4 (List.mem_of_getElem? (i := 140) rfl) rfl
theorem q1273 : Cond.methodLink "ControlTextModel" 241 yX8_simple ∈ ALL := mr4 (List.mem_of_getElem? (i := 141) rfl) rfl
theorem q1275 : Cond.instanceMethod yX8_simple ∈ ALL := mr4 (List.mem_of_getElem? (i := 143) rfl) rfl
theorem q1276 : Cond.code yX8_simple prog_12_method_45_code 1 (Option.none : Option Jvm.ClassFile.FieldType) ∈ ALL := mr4 (List.mem_of_getElem? (i := 144) rfl) rfl
theorem q1277 : Cond.methodLink "ControlTextModel" 238 yX8_leaf ∈ ALL := mr4 (List.mem_of_getElem? (i := 145) rfl) rfl
theorem q1279 : Cond.instanceMethod yX8_leaf ∈ ALL := mr4 (List.mem_of_getElem? (i := 147) rfl) rfl
theorem q1280 : Cond.code yX8_leaf prog_12_method_25_code 4 (Option.none : Option Jvm.ClassFile.FieldType) ∈ ALL := mr4 (List.mem_of_getElem? (i := 148) rfl) rfl
theorem q1281 : Cond.methodLink "ControlTextModel" 326 yX8_title ∈ ALL := mr4 (List.mem_of_getElem? (i := 149) rfl) rfl
theorem q1283 : Cond.instanceMethod yX8_title ∈ ALL := mr4 (List.mem_of_getElem? (i := 151) rfl) rfl
theorem q1284 : Cond.code yX8_title prog_12_method_39_code 1 (Option.none : Option Jvm.ClassFile.FieldType) ∈ ALL := mr4 (List.mem_of_getElem? (i := 152) rfl) rfl
theorem q1285 : Cond.methodLink "ControlTextModel" 329 yX8_declarations ∈ ALL := mr4 (List.mem_of_getElem? (i := 153) rfl) rfl
theorem q1287 : Cond.instanceMethod yX8_declarations ∈ ALL := mr4 (List.mem_of_getElem? (i := 155) rfl) rfl
theorem q1288 : Cond.code yX8_declarations prog_12_method_43_code 1 (Option.none : Option Jvm.ClassFile.FieldType) ∈ ALL := mr4 (List.mem_of_getElem? (i := 156) rfl) rfl
theorem q1289 : Cond.methodLink "ControlTextModel" 332 yX8_aName ∈ ALL := mr4 (List.mem_of_getElem? (i := 157) rfl) rfl
theorem q1291 : Cond.instanceMethod yX8_aName ∈ ALL := mr4 (List.mem_of_getElem? (i := 159) rfl) rfl
theorem q1292 : Cond.code yX8_aName prog_12_method_44_code 1 (Option.none : Option Jvm.ClassFile.FieldType) ∈ ALL := mr4 (List.mem_of_getElem? (i := 160) rfl) rfl
theorem q1293 : Cond.methodLink "ControlTextModel" 335 yX8_perhaps ∈ ALL := mr4 (List.mem_of_getElem? (i := 161) rfl) rfl
theorem q1295 : Cond.instanceMethod yX8_perhaps ∈ ALL := mr4 (List.mem_of_getElem? (i := 163) rfl) rfl
theorem q1296 : Cond.code yX8_perhaps prog_12_method_49_code 4 (Option.none : Option Jvm.ClassFile.FieldType) ∈ ALL := mr4 (List.mem_of_getElem? (i := 164) rfl) rfl
theorem q1297 : Cond.methodLink "ControlTextModel" 338 yX8_type ∈ ALL := mr4 (List.mem_of_getElem? (i := 165) rfl) rfl
theorem q1299 : Cond.instanceMethod yX8_type ∈ ALL := mr4 (List.mem_of_getElem? (i := 167) rfl) rfl
theorem q1300 : Cond.code yX8_type prog_12_method_46_code 1 (Option.none : Option Jvm.ClassFile.FieldType) ∈ ALL := mr4 (List.mem_of_getElem? (i := 168) rfl) rfl
theorem q1301 : Cond.methodLink "ControlTextModel" 341 yX8_constant ∈ ALL := mr4 (List.mem_of_getElem? (i := 169) rfl) rfl
theorem q1303 : Cond.instanceMethod yX8_constant ∈ ALL := mr4 (List.mem_of_getElem? (i := 171) rfl) rfl
theorem q1304 : Cond.code yX8_constant prog_12_method_47_code 1 (Option.none : Option Jvm.ClassFile.FieldType) ∈ ALL := mr4 (List.mem_of_getElem? (i := 172) rfl) rfl
theorem q1305 : Cond.methodLink "ControlTextModel" 344 yX8_lessNumber ∈ ALL := mr4 (List.mem_of_getElem? (i := 173) rfl) rfl
theorem q1307 : Cond.instanceMethod yX8_lessNumber ∈ ALL := mr4 (List.mem_of_getElem? (i := 175) rfl) rfl
theorem q1308 : Cond.code yX8_lessNumber prog_12_method_48_code 1 (Option.none : Option Jvm.ClassFile.FieldType) ∈ ALL := mr4 (List.mem_of_getElem? (i := 176) rfl) rfl
theorem q1309 : Cond.methodLink "ControlTextModel" 419 yX8_actStatement ∈ ALL := mr4 (List.mem_of_getElem? (i := 177) rfl) rfl
theorem q1311 : Cond.instanceMethod yX8_actStatement ∈ ALL := mr4 (List.mem_of_getElem? (i := 179) rfl) rfl
theorem q1312 : Cond.code yX8_actStatement prog_12_method_85_code 2 (Option.none : Option Jvm.ClassFile.FieldType) ∈ ALL := mr4 (List.mem_of_getElem? (i := 180) rfl) rfl
theorem q1313 : Cond.methodLink "ControlTextModel" 347 yX8_statements ∈ ALL := mr4 (List.mem_of_getElem? (i := 181) rfl) rfl
theorem q1315 : Cond.instanceMethod yX8_statements ∈ ALL := mr4 (List.mem_of_getElem? (i := 183) rfl) rfl
theorem q1316 : Cond.code yX8_statements prog_12_method_50_code 1 (Option.none : Option Jvm.ClassFile.FieldType) ∈ ALL := mr4 (List.mem_of_getElem? (i := 184) rfl) rfl
theorem q1317 : Cond.methodLink "ControlTextModel" 247 yX8_keepName ∈ ALL := mr4 (List.mem_of_getElem? (i := 185) rfl) rfl
theorem q1319 : Cond.instanceMethod yX8_keepName ∈ ALL := mr4 (List.mem_of_getElem? (i := 187) rfl) rfl
theorem q1320 : Cond.code yX8_keepName prog_12_method_34_code 1 (Option.none : Option Jvm.ClassFile.FieldType) ∈ ALL := mr4 (List.mem_of_getElem? (i := 188) rfl) rfl
theorem q1321 : Cond.methodLink "ControlTextModel" 250 yX8_opens ∈ ALL := mr4 (List.mem_of_getElem? (i := 189) rfl) rfl
theorem q1323 : Cond.instanceMethod yX8_opens ∈ ALL := mr4 (List.mem_of_getElem? (i := 191) rfl) rfl
theorem q1324 : Cond.code yX8_opens prog_12_method_33_code 1 (Option.some Jvm.ClassFile.FieldType.boolean) ∈ ALL := mr4 (List.mem_of_getElem? (i := 192) rfl) rfl
theorem q1325 : Cond.methodLink "ControlTextModel" 253 yX8_compound ∈ ALL := mr4 (List.mem_of_getElem? (i := 193) rfl) rfl
theorem q1327 : Cond.instanceMethod yX8_compound ∈ ALL := mr4 (List.mem_of_getElem? (i := 195) rfl) rfl
theorem q1328 : Cond.code yX8_compound prog_12_method_51_code 1 (Option.none : Option Jvm.ClassFile.FieldType) ∈ ALL := mr4 (List.mem_of_getElem? (i := 196) rfl) rfl
theorem q1329 : Cond.methodLink "ControlTextModel" 256 yX8_pushExpression ∈ ALL := mr4 (List.mem_of_getElem? (i := 197) rfl) rfl
theorem q1331 : Cond.instanceMethod yX8_pushExpression ∈ ALL := mr4 (List.mem_of_getElem? (i := 199) rfl) rfl
theorem q1332 : Cond.code yX8_pushExpression prog_12_method_30_code 1 (Option.none : Option Jvm.ClassFile.FieldType) ∈ ALL := mr4 (List.mem_of_getElem? (i := 200) rfl) rfl
theorem q1333 : Cond.methodLink "ControlTextModel" 350 yX8_behindName ∈ ALL := mr4 (List.mem_of_getElem? (i := 201) rfl) rfl
theorem q1335 : Cond.instanceMethod yX8_behindName ∈ ALL := mr4 (List.mem_of_getElem? (i := 203) rfl) rfl
theorem q1336 : Cond.code yX8_behindName prog_12_method_53_code 1 (Option.none : Option Jvm.ClassFile.FieldType) ∈ ALL := mr4 (List.mem_of_getElem? (i := 204) rfl) rfl
theorem q1337 : Cond.methodLink "ControlTextModel" 353 yX8_ifRest ∈ ALL := mr4 (List.mem_of_getElem? (i := 205) rfl) rfl
theorem q1339 : Cond.instanceMethod yX8_ifRest ∈ ALL := mr4 (List.mem_of_getElem? (i := 207) rfl) rfl
theorem q1340 : Cond.code yX8_ifRest prog_12_method_57_code 1 (Option.none : Option Jvm.ClassFile.FieldType) ∈ ALL := mr4 (List.mem_of_getElem? (i := 208) rfl) rfl
theorem q1341 : Cond.methodLink "ControlTextModel" 262 yX8_elseBody ∈ ALL := mr4 (List.mem_of_getElem? (i := 209) rfl) rfl
theorem q1343 : Cond.instanceMethod yX8_elseBody ∈ ALL := mr4 (List.mem_of_getElem? (i := 211) rfl) rfl
theorem q1344 : Cond.code yX8_elseBody prog_12_method_58_code 1 (Option.none : Option Jvm.ClassFile.FieldType) ∈ ALL := mr4 (List.mem_of_getElem? (i := 212) rfl) rfl
theorem q1345 : Cond.methodLink "ControlTextModel" 265 yX8_bodyBehind ∈ ALL := mr4 (List.mem_of_getElem? (i := 213) rfl) rfl
theorem q1347 : Cond.instanceMethod yX8_bodyBehind ∈ ALL := mr4 (List.mem_of_getElem? (i := 215) rfl) rfl
theorem q1348 : Cond.code yX8_bodyBehind prog_12_method_42_code 3 (Option.none : Option Jvm.ClassFile.FieldType) ∈ ALL := mr4 (List.mem_of_getElem? (i := 216) rfl) rfl
theorem q1349 : Cond.methodLink "ControlTextModel" 356 yX8_choices ∈ ALL := mr4 (List.mem_of_getElem? (i := 217) rfl) rfl
theorem q1351 : Cond.instanceMethod yX8_choices ∈ ALL := mr4 (List.mem_of_getElem? (i := 219) rfl) rfl
theorem q1352 : Cond.code yX8_choices prog_12_method_59_code 1 (Option.none : Option Jvm.ClassFile.FieldType) ∈ ALL := mr4 (List.mem_of_getElem? (i := 220) rfl) rfl
theorem q1353 : Cond.methodLink "ControlTextModel" 223 yX8_isConstant ∈ ALL := mr4 (List.mem_of_getElem? (i := 221) rfl) rfl
theorem q1355 : Cond.instanceMethod yX8_isConstant ∈ ALL := mr4 (List.mem_of_getElem? (i := 223) rfl) rfl
theorem q1356 : Cond.code yX8_isConstant prog_12_method_35_code 1 (Option.some Jvm.ClassFile.FieldType.boolean) ∈ ALL := mr4 (List.mem_of_getElem? (i := 224) rfl) rfl
theorem q1357 : Cond.methodLink "ControlTextModel" 359 yX8_range ∈ ALL := mr4 (List.mem_of_getElem? (i := 225) rfl) rfl
theorem q1359 : Cond.instanceMethod yX8_range ∈ ALL := mr4 (List.mem_of_getElem? (i := 227) rfl) rfl
theorem q1360 : Cond.code yX8_range prog_12_method_60_code 1 (Option.none : Option Jvm.ClassFile.FieldType) ∈ ALL := mr4 (List.mem_of_getElem? (i := 228) rfl) rfl
theorem q1361 : Cond.methodLink "ControlTextModel" 362 yX8_assign ∈ ALL := mr4 (List.mem_of_getElem? (i := 229) rfl) rfl
theorem q1363 : Cond.instanceMethod yX8_assign ∈ ALL := mr4 (List.mem_of_getElem? (i := 231) rfl) rfl
theorem q1364 : Cond.code yX8_assign prog_12_method_55_code 1 (Option.none : Option Jvm.ClassFile.FieldType) ∈ ALL := mr4 (List.mem_of_getElem? (i := 232) rfl) rfl
theorem q1365 : Cond.methodLink "ControlTextModel" 365 yX8_indexEnd ∈ ALL := mr4 (List.mem_of_getElem? (i := 233) rfl) rfl
theorem q1367 : Cond.instanceMethod yX8_indexEnd ∈ ALL := mr4 (List.mem_of_getElem? (i := 235) rfl) rfl
theorem q1368 : Cond.code yX8_indexEnd prog_12_method_54_code 1 (Option.none : Option Jvm.ClassFile.FieldType) ∈ ALL := mr4 (List.mem_of_getElem? (i := 236) rfl) rfl
theorem q1369 : Cond.methodLink "ControlTextModel" 368 yX8_parameter ∈ ALL := mr4 (List.mem_of_getElem? (i := 237) rfl) rfl
theorem q1371 : Cond.instanceMethod yX8_parameter ∈ ALL := mr4 (List.mem_of_getElem? (i := 239) rfl) rfl
theorem q1372 : Cond.code yX8_parameter prog_12_method_56_code 1 (Option.none : Option Jvm.ClassFile.FieldType) ∈ ALL := mr5 (List.mem_of_getElem? (i := 0) rfl) rfl
theorem q1373 : Cond.methodLink "ControlTextModel" 422 yX8_actOperand ∈ ALL := mr5 (List.mem_of_getElem? (i := 1) rfl) rfl
theorem q1375 : Cond.instanceMethod yX8_actOperand ∈ ALL := mr5 (List.mem_of_getElem? (i := 3) rfl) rfl
theorem q1376 : Cond.code yX8_actOperand prog_12_method_87_code 2 (Option.none : Option Jvm.ClassFile.FieldType) ∈ ALL := mr5 (List.mem_of_getElem? (i := 4) rfl) rfl
theorem q1377 : Cond.methodLink "ControlTextModel" 371 yX8_expression ∈ ALL := mr5 (List.mem_of_getElem? (i := 5) rfl) rfl
theorem q1379 : Cond.instanceMethod yX8_expression ∈ ALL := mr5 (List.mem_of_getElem? (i := 7) rfl) rfl
theorem q1380 : Cond.code yX8_expression prog_12_method_64_code 1 (Option.none : Option Jvm.ClassFile.FieldType) ∈ ALL := mr5 (List.mem_of_getElem? (i := 8) rfl) rfl
theorem q1381 : Cond.methodLink "ControlTextModel" 277 yX8_waitFor ∈ ALL := mr5 (List.mem_of_getElem? (i := 9) rfl) rfl
theorem q1383 : Cond.instanceMethod yX8_waitFor ∈ ALL := mr5 (List.mem_of_getElem? (i := 11) rfl) rfl
theorem q1384 : Cond.code yX8_waitFor prog_12_method_63_code 3 (Option.none : Option Jvm.ClassFile.FieldType) ∈ ALL := mr5 (List.mem_of_getElem? (i := 12) rfl) rfl
theorem q1385 : Cond.methodLink "ControlTextModel" 374 yX8_anOperand ∈ ALL := mr5 (List.mem_of_getElem? (i := 13) rfl) rfl
theorem q1387 : Cond.instanceMethod yX8_anOperand ∈ ALL := mr5 (List.mem_of_getElem? (i := 15) rfl) rfl
theorem q1388 : Cond.code yX8_anOperand prog_12_method_69_code 1 (Option.none : Option Jvm.ClassFile.FieldType) ∈ ALL := mr5 (List.mem_of_getElem? (i := 16) rfl) rfl
theorem q1389 : Cond.methodLink "ControlTextModel" 290 yX8_operandCame ∈ ALL := mr5 (List.mem_of_getElem? (i := 17) rfl) rfl
theorem q1391 : Cond.instanceMethod yX8_operandCame ∈ ALL := mr5 (List.mem_of_getElem? (i := 19) rfl) rfl
theorem q1392 : Cond.code yX8_operandCame prog_12_method_68_code 2 (Option.none : Option Jvm.ClassFile.FieldType) ∈ ALL := mr5 (List.mem_of_getElem? (i := 20) rfl) rfl
theorem q1393 : Cond.methodLink "ControlTextModel" 284 yX8_putOperand ∈ ALL := mr5 (List.mem_of_getElem? (i := 21) rfl) rfl
theorem q1395 : Cond.instanceMethod yX8_putOperand ∈ ALL := mr5 (List.mem_of_getElem? (i := 23) rfl) rfl
theorem q1396 : Cond.code yX8_putOperand prog_12_method_61_code 2 (Option.none : Option Jvm.ClassFile.FieldType) ∈ ALL := mr5 (List.mem_of_getElem? (i := 24) rfl) rfl
theorem q1397 : Cond.methodLink "ControlTextModel" 287 yX8_settle ∈ ALL := mr5 (List.mem_of_getElem? (i := 25) rfl) rfl
theorem q1399 : Cond.instanceMethod yX8_settle ∈ ALL := mr5 (List.mem_of_getElem? (i := 27) rfl) rfl
theorem q1400 : Cond.code yX8_settle prog_12_method_67_code 4 (Option.none : Option Jvm.ClassFile.FieldType) ∈ ALL := mr5 (List.mem_of_getElem? (i := 28) rfl) rfl
theorem q1401 : Cond.methodLink "ControlTextModel" 280 yX8_takeOperand ∈ ALL := mr5 (List.mem_of_getElem? (i := 29) rfl) rfl
theorem q1403 : Cond.instanceMethod yX8_takeOperand ∈ ALL := mr5 (List.mem_of_getElem? (i := 31) rfl) rfl
theorem q1404 : Cond.code yX8_takeOperand prog_12_method_62_code 1 (Option.some Jvm.ClassFile.FieldType.int) ∈ ALL := mr5 (List.mem_of_getElem? (i := 32) rfl) rfl
theorem q1405 : Cond.methodLink "ControlTextModel" 377 yX8_signRest ∈ ALL := mr5 (List.mem_of_getElem? (i := 33) rfl) rfl
theorem q1407 : Cond.instanceMethod yX8_signRest ∈ ALL := mr5 (List.mem_of_getElem? (i := 35) rfl) rfl
theorem q1408 : Cond.code yX8_signRest prog_12_method_78_code 2 (Option.none : Option Jvm.ClassFile.FieldType) ∈ ALL := mr5 (List.mem_of_getElem? (i := 36) rfl) rfl
theorem q1409 : Cond.methodLink "ControlTextModel" 305 yX8_signAt ∈ ALL := mr5 (List.mem_of_getElem? (i := 37) rfl) rfl
theorem q1411 : Cond.instanceMethod yX8_signAt ∈ ALL := mr5 (List.mem_of_getElem? (i := 39) rfl) rfl
theorem q1412 : Cond.code yX8_signAt prog_12_method_65_code 1 (Option.some Jvm.ClassFile.FieldType.int) ∈ ALL := mr5 (List.mem_of_getElem? (i := 40) rfl) rfl
theorem q1413 : Cond.methodLink "ControlTextModel" 311 yX8_closeness ∈ ALL := mr5 (List.mem_of_getElem? (i := 41) rfl) rfl
theorem q1414 : Cond.static yX8_closeness ∈ ALL := mr5 (List.mem_of_getElem? (i := 42) rfl) rfl
theorem q1415 : Cond.code yX8_closeness prog_12_method_66_code 1 (Option.some Jvm.ClassFile.FieldType.int) ∈ ALL := mr5 (List.mem_of_getElem? (i := 43) rfl) rfl
theorem q1416 : Cond.methodLink "ControlTextModel" 380 yX8_groupEnd ∈ ALL := mr5 (List.mem_of_getElem? (i := 44) rfl) rfl
theorem q1418 : Cond.instanceMethod yX8_groupEnd ∈ ALL := mr5 (List.mem_of_getElem? (i := 46) rfl) rfl
theorem q1419 : Cond.code yX8_groupEnd prog_12_method_70_code 1 (Option.none : Option Jvm.ClassFile.FieldType) ∈ ALL := mr5 (List.mem_of_getElem? (i := 47) rfl) rfl
theorem q1420 : Cond.methodLink "ControlTextModel" 383 yX8_behindOperand ∈ ALL := mr5 (List.mem_of_getElem? (i := 48) rfl) rfl
theorem q1422 : Cond.instanceMethod yX8_behindOperand ∈ ALL := mr5 (List.mem_of_getElem? (i := 50) rfl) rfl
theorem q1423 : Cond.code yX8_behindOperand prog_12_method_72_code 1 (Option.none : Option Jvm.ClassFile.FieldType) ∈ ALL := mr5 (List.mem_of_getElem? (i := 51) rfl) rfl
theorem q1424 : Cond.methodLink "ControlTextModel" 296 yX8_start ∈ ALL := mr5 (List.mem_of_getElem? (i := 52) rfl) rfl
theorem q1426 : Cond.instanceMethod yX8_start ∈ ALL := mr5 (List.mem_of_getElem? (i := 54) rfl) rfl
theorem q1427 : Cond.code yX8_start prog_12_method_71_code 2 (Option.none : Option Jvm.ClassFile.FieldType) ∈ ALL := mr5 (List.mem_of_getElem? (i := 55) rfl) rfl
theorem q1428 : Cond.methodLink "ControlTextModel" 386 yX8_elementEnd ∈ ALL := mr5 (List.mem_of_getElem? (i := 56) rfl) rfl
theorem q1430 : Cond.instanceMethod yX8_elementEnd ∈ ALL := mr5 (List.mem_of_getElem? (i := 58) rfl) rfl
theorem q1431 : Cond.code yX8_elementEnd prog_12_method_75_code 1 (Option.none : Option Jvm.ClassFile.FieldType) ∈ ALL := mr5 (List.mem_of_getElem? (i := 59) rfl) rfl
theorem q1432 : Cond.methodLink "ControlTextModel" 299 yX8_argument ∈ ALL := mr5 (List.mem_of_getElem? (i := 60) rfl) rfl
theorem q1434 : Cond.instanceMethod yX8_argument ∈ ALL := mr5 (List.mem_of_getElem? (i := 62) rfl) rfl
theorem q1435 : Cond.code yX8_argument prog_12_method_74_code 1 (Option.none : Option Jvm.ClassFile.FieldType) ∈ ALL := mr5 (List.mem_of_getElem? (i := 63) rfl) rfl
theorem q1436 : Cond.methodLink "ControlTextModel" 302 yX8_finish ∈ ALL := mr5 (List.mem_of_getElem? (i := 64) rfl) rfl
theorem q1438 : Cond.instanceMethod yX8_finish ∈ ALL := mr5 (List.mem_of_getElem? (i := 66) rfl) rfl
theorem q1439 : Cond.code yX8_finish prog_12_method_73_code 1 (Option.none : Option Jvm.ClassFile.FieldType) ∈ ALL := mr5 (List.mem_of_getElem? (i := 67) rfl) rfl
theorem q1440 : Cond.methodLink "ControlTextModel" 389 yX8_output ∈ ALL := mr5 (List.mem_of_getElem? (i := 68) rfl) rfl
theorem q1442 : Cond.instanceMethod yX8_output ∈ ALL := mr5 (List.mem_of_getElem? (i := 70) rfl) rfl
theorem q1443 : Cond.code yX8_output prog_12_method_76_code 1 (Option.none : Option Jvm.ClassFile.FieldType) ∈ ALL := mr5 (List.mem_of_getElem? (i := 71) rfl) rfl
theorem q1444 : Cond.methodLink "ControlTextModel" 392 yX8_isOperand ∈ ALL := mr5 (List.mem_of_getElem? (i := 72) rfl) rfl
theorem q1446 : Cond.instanceMethod yX8_isOperand ∈ ALL := mr5 (List.mem_of_getElem? (i := 74) rfl) rfl
theorem q1447 : Cond.code yX8_isOperand prog_12_method_36_code 1 (Option.some Jvm.ClassFile.FieldType.boolean) ∈ ALL := mr5 (List.mem_of_getElem? (i := 75) rfl) rfl
theorem q1448 : Cond.methodLink "ControlTextModel" 395 yX8_pushArgument ∈ ALL := mr5 (List.mem_of_getElem? (i := 76) rfl) rfl
theorem q1450 : Cond.instanceMethod yX8_pushArgument ∈ ALL := mr5 (List.mem_of_getElem? (i := 78) rfl) rfl
theorem q1451 : Cond.code yX8_pushArgument prog_12_method_86_code 1 (Option.none : Option Jvm.ClassFile.FieldType) ∈ ALL := mr5 (List.mem_of_getElem? (i := 79) rfl) rfl
theorem q1452 : Cond.methodLink "ControlTextModel" 398 yX8_resultEnd ∈ ALL := mr5 (List.mem_of_getElem? (i := 80) rfl) rfl
theorem q1454 : Cond.instanceMethod yX8_resultEnd ∈ ALL := mr5 (List.mem_of_getElem? (i := 82) rfl) rfl
theorem q1455 : Cond.code yX8_resultEnd prog_12_method_77_code 1 (Option.none : Option Jvm.ClassFile.FieldType) ∈ ALL := mr5 (List.mem_of_getElem? (i := 83) rfl) rfl
theorem q1456 : Cond.methodLink "ControlTextModel" 425 yX8_actRung ∈ ALL := mr5 (List.mem_of_getElem? (i := 84) rfl) rfl
theorem q1458 : Cond.instanceMethod yX8_actRung ∈ ALL := mr5 (List.mem_of_getElem? (i := 86) rfl) rfl
theorem q1459 : Cond.code yX8_actRung prog_12_method_88_code 2 (Option.none : Option Jvm.ClassFile.FieldType) ∈ ALL := mr5 (List.mem_of_getElem? (i := 87) rfl) rfl
theorem q1460 : Cond.methodLink "ControlTextModel" 314 yX8_isCell ∈ ALL := mr5 (List.mem_of_getElem? (i := 88) rfl) rfl
theorem q1462 : Cond.instanceMethod yX8_isCell ∈ ALL := mr5 (List.mem_of_getElem? (i := 90) rfl) rfl
theorem q1463 : Cond.code yX8_isCell prog_12_method_37_code 1 (Option.some Jvm.ClassFile.FieldType.boolean) ∈ ALL := mr5 (List.mem_of_getElem? (i := 91) rfl) rfl
theorem q1464 : Cond.methodLink "ControlTextModel" 401 yX8_cell ∈ ALL := mr5 (List.mem_of_getElem? (i := 92) rfl) rfl
theorem q1466 : Cond.instanceMethod yX8_cell ∈ ALL := mr5 (List.mem_of_getElem? (i := 94) rfl) rfl
theorem q1467 : Cond.code yX8_cell prog_12_method_79_code 2 (Option.none : Option Jvm.ClassFile.FieldType) ∈ ALL := mr5 (List.mem_of_getElem? (i := 95) rfl) rfl
theorem q1468 : Cond.methodLink "ControlTextModel" 404 yX8_moreCells ∈ ALL := mr5 (List.mem_of_getElem? (i := 96) rfl) rfl
theorem q1470 : Cond.instanceMethod yX8_moreCells ∈ ALL := mr5 (List.mem_of_getElem? (i := 98) rfl) rfl
theorem q1471 : Cond.code yX8_moreCells prog_12_method_83_code 1 (Option.none : Option Jvm.ClassFile.FieldType) ∈ ALL := mr5 (List.mem_of_getElem? (i := 99) rfl) rfl
theorem q1472 : Cond.methodLink "ControlTextModel" 407 yX8_contact ∈ ALL := mr5 (List.mem_of_getElem? (i := 100) rfl) rfl
theorem q1474 : Cond.instanceMethod yX8_contact ∈ ALL := mr5 (List.mem_of_getElem? (i := 102) rfl) rfl
theorem q1475 : Cond.code yX8_contact prog_12_method_80_code 1 (Option.none : Option Jvm.ClassFile.FieldType) ∈ ALL := mr5 (List.mem_of_getElem? (i := 103) rfl) rfl
theorem q1476 : Cond.methodLink "ControlTextModel" 410 yX8_behindContact ∈ ALL := mr5 (List.mem_of_getElem? (i := 104) rfl) rfl
theorem q1478 : Cond.instanceMethod yX8_behindContact ∈ ALL := mr5 (List.mem_of_getElem? (i := 106) rfl) rfl
theorem q1479 : Cond.code yX8_behindContact prog_12_method_81_code 1 (Option.none : Option Jvm.ClassFile.FieldType) ∈ ALL := mr5 (List.mem_of_getElem? (i := 107) rfl) rfl
theorem q1480 : Cond.methodLink "ControlTextModel" 413 yX8_coil ∈ ALL := mr5 (List.mem_of_getElem? (i := 108) rfl) rfl
theorem q1482 : Cond.instanceMethod yX8_coil ∈ ALL := mr5 (List.mem_of_getElem? (i := 110) rfl) rfl
theorem q1483 : Cond.code yX8_coil prog_12_method_82_code 2 (Option.none : Option Jvm.ClassFile.FieldType) ∈ ALL := mr5 (List.mem_of_getElem? (i := 111) rfl) rfl
theorem q1484 : Cond.methodLink "ControlTextModel" 437 yX8_number ∈ ALL := mr5 (List.mem_of_getElem? (i := 112) rfl) rfl
theorem q1486 : Cond.instanceMethod yX8_number ∈ ALL := mr5 (List.mem_of_getElem? (i := 114) rfl) rfl
theorem q1487 : Cond.code yX8_number prog_12_method_91_code 2 (Option.none : Option Jvm.ClassFile.FieldType) ∈ ALL := mr5 (List.mem_of_getElem? (i := 115) rfl) rfl
theorem q1488 : Cond.methodLink "ControlTextModel" 431 yX8_following ∈ ALL := mr5 (List.mem_of_getElem? (i := 116) rfl) rfl
theorem q1490 : Cond.instanceMethod yX8_following ∈ ALL := mr5 (List.mem_of_getElem? (i := 118) rfl) rfl
theorem q1491 : Cond.code yX8_following prog_12_method_90_code 3 (Option.some Jvm.ClassFile.FieldType.int) ∈ ALL := mr5 (List.mem_of_getElem? (i := 119) rfl) rfl
theorem q1492 : Cond.methodLink "ControlTextLaw" 40 yX8_count ∈ ALL := mr5 (List.mem_of_getElem? (i := 120) rfl) rfl
theorem q1493 : Cond.instanceMethod yX8_count ∈ ALL := mr5 (List.mem_of_getElem? (i := 121) rfl) rfl
theorem q1494 : Cond.selects "ControlTextModel" yX8_count yX8_count ∈ ALL := mr5 (List.mem_of_getElem? (i := 122) rfl) rfl
theorem q1495 : Cond.code yX8_count prog_12_method_93_code 2 (Option.some Jvm.ClassFile.FieldType.int) ∈ ALL := mr5 (List.mem_of_getElem? (i := 123) rfl) rfl
theorem q1496 : Cond.methodLink "ControlTextLaw" 44 yX8_node ∈ ALL := mr5 (List.mem_of_getElem? (i := 124) rfl) rfl
theorem q1497 : Cond.instanceMethod yX8_node ∈ ALL := mr5 (List.mem_of_getElem? (i := 125) rfl) rfl
theorem q1498 : Cond.selects "ControlTextModel" yX8_node yX8_node ∈ ALL := mr5 (List.mem_of_getElem? (i := 126) rfl) rfl
theorem q1499 : Cond.code yX8_node prog_12_method_95_code 4 (Option.some Jvm.ClassFile.FieldType.int) ∈ ALL := mr5 (List.mem_of_getElem? (i := 127) rfl) rfl
theorem q1500 : Cond.methodLink "ControlTextModel" 443 yX8_children ∈ ALL := mr5 (List.mem_of_getElem? (i := 128) rfl) rfl
theorem q1502 : Cond.instanceMethod yX8_children ∈ ALL := mr5 (List.mem_of_getElem? (i := 130) rfl) rfl
theorem q1503 : Cond.code yX8_children prog_12_method_94_code 4 (Option.some Jvm.ClassFile.FieldType.int) ∈ ALL := mr5 (List.mem_of_getElem? (i := 131) rfl) rfl
theorem q1504 : Cond.methodLink "ControlTextLaw" 48 yX8_nameByte ∈ ALL := mr5 (List.mem_of_getElem? (i := 132) rfl) rfl
theorem q1505 : Cond.instanceMethod yX8_nameByte ∈ ALL := mr5 (List.mem_of_getElem? (i := 133) rfl) rfl
theorem q1506 : Cond.selects "ControlTextModel" yX8_nameByte yX8_nameByte ∈ ALL := mr5 (List.mem_of_getElem? (i := 134) rfl) rfl
theorem q1507 : Cond.code yX8_nameByte prog_12_method_96_code 3 (Option.some Jvm.ClassFile.FieldType.int) ∈ ALL := mr5 (List.mem_of_getElem? (i := 135) rfl) rfl
theorem q1508 : Cond.methodLink "ControlTextLaw" 52 yX8_write ∈ ALL := mr5 (List.mem_of_getElem? (i := 136) rfl) rfl
theorem q1509 : Cond.instanceMethod yX8_write ∈ ALL := mr5 (List.mem_of_getElem? (i := 137) rfl) rfl
theorem q1510 : Cond.selects "ControlTextModel" yX8_write yX8_write ∈ ALL := mr5 (List.mem_of_getElem? (i := 138) rfl) rfl
theorem q1511 : Cond.code yX8_write prog_12_method_122_code 1 (Option.some Jvm.ClassFile.FieldType.int) ∈ ALL := mr5 (List.mem_of_getElem? (i := 139) rfl) rfl
theorem q1512 : Cond.methodLink "ControlTextModel" 462 yX8_item ∈ ALL := mr5 (List.mem_of_getElem? (i := 140) rfl) rfl
theorem q1514 : Cond.instanceMethod yX8_item ∈ ALL := mr5 (List.mem_of_getElem? (i := 142) rfl) rfl
theorem q1515 : Cond.code yX8_item prog_12_method_97_code 3 (Option.none : Option Jvm.ClassFile.FieldType) ∈ ALL := mr5 (List.mem_of_getElem? (i := 143) rfl) rfl
theorem q1516 : Cond.methodLink "ControlTextModel" 526 yX8_openItem ∈ ALL := mr5 (List.mem_of_getElem? (i := 144) rfl) rfl
theorem q1518 : Cond.instanceMethod yX8_openItem ∈ ALL := mr5 (List.mem_of_getElem? (i := 146) rfl) rfl
theorem q1519 : Cond.code yX8_openItem prog_12_method_121_code 3 (Option.none : Option Jvm.ClassFile.FieldType) ∈ ALL := mr5 (List.mem_of_getElem? (i := 147) rfl) rfl
theorem q1520 : Cond.methodLink "ControlTextModel" 477 yX8_putToken ∈ ALL := mr5 (List.mem_of_getElem? (i := 148) rfl) rfl
theorem q1522 : Cond.instanceMethod yX8_putToken ∈ ALL := mr5 (List.mem_of_getElem? (i := 150) rfl) rfl
theorem q1523 : Cond.code yX8_putToken prog_12_method_101_code 3 (Option.none : Option Jvm.ClassFile.FieldType) ∈ ALL := mr5 (List.mem_of_getElem? (i := 151) rfl) rfl
theorem q1524 : Cond.methodLink "ControlTextModel" 455 yX8_part ∈ ALL := mr5 (List.mem_of_getElem? (i := 152) rfl) rfl
theorem q1526 : Cond.instanceMethod yX8_part ∈ ALL := mr5 (List.mem_of_getElem? (i := 154) rfl) rfl
theorem q1527 : Cond.code yX8_part prog_12_method_100_code 2 (Option.none : Option Jvm.ClassFile.FieldType) ∈ ALL := mr5 (List.mem_of_getElem? (i := 155) rfl) rfl
theorem q1528 : Cond.methodLink "ControlTextModel" 449 yX8_isOfName ∈ ALL := mr5 (List.mem_of_getElem? (i := 156) rfl) rfl
theorem q1529 : Cond.static yX8_isOfName ∈ ALL := mr5 (List.mem_of_getElem? (i := 157) rfl) rfl
theorem q1530 : Cond.code yX8_isOfName prog_12_method_99_code 1 (Option.some Jvm.ClassFile.FieldType.boolean) ∈ ALL := mr5 (List.mem_of_getElem? (i := 158) rfl) rfl
theorem q1531 : Cond.methodLink "ControlTextModel" 452 yX8_put ∈ ALL := mr5 (List.mem_of_getElem? (i := 159) rfl) rfl
theorem q1533 : Cond.instanceMethod yX8_put ∈ ALL := mr5 (List.mem_of_getElem? (i := 161) rfl) rfl
theorem q1534 : Cond.code yX8_put prog_12_method_98_code 2 (Option.none : Option Jvm.ClassFile.FieldType) ∈ ALL := mr5 (List.mem_of_getElem? (i := 162) rfl) rfl
theorem q1535 : Cond.methodLink "ControlTextModel" 496 yX8_putName ∈ ALL := mr5 (List.mem_of_getElem? (i := 163) rfl) rfl
theorem q1537 : Cond.instanceMethod yX8_putName ∈ ALL := mr5 (List.mem_of_getElem? (i := 165) rfl) rfl
theorem q1538 : Cond.code yX8_putName prog_12_method_102_code 3 (Option.none : Option Jvm.ClassFile.FieldType) ∈ ALL := mr5 (List.mem_of_getElem? (i := 166) rfl) rfl
theorem q1539 : Cond.methodLink "ControlTextModel" 511 yX8_openParts ∈ ALL := mr5 (List.mem_of_getElem? (i := 167) rfl) rfl
theorem q1541 : Cond.instanceMethod yX8_openParts ∈ ALL := mr5 (List.mem_of_getElem? (i := 169) rfl) rfl
theorem q1542 : Cond.code yX8_openParts prog_12_method_117_code 3 (Option.none : Option Jvm.ClassFile.FieldType) ∈ ALL := mr5 (List.mem_of_getElem? (i := 170) rfl) rfl
theorem q1543 : Cond.methodLink "ControlTextModel" 514 yX8_openNode ∈ ALL := mr5 (List.mem_of_getElem? (i := 171) rfl) rfl
theorem q1545 : Cond.instanceMethod yX8_openNode ∈ ALL := mr5 (List.mem_of_getElem? (i := 173) rfl) rfl
theorem q1546 : Cond.code yX8_openNode prog_12_method_116_code 2 (Option.none : Option Jvm.ClassFile.FieldType) ∈ ALL := mr5 (List.mem_of_getElem? (i := 174) rfl) rfl
theorem q1547 : Cond.methodLink "ControlTextModel" 499 yX8_openBlock ∈ ALL := mr5 (List.mem_of_getElem? (i := 175) rfl) rfl
theorem q1549 : Cond.instanceMethod yX8_openBlock ∈ ALL := mr5 (List.mem_of_getElem? (i := 177) rfl) rfl
theorem q1550 : Cond.code yX8_openBlock prog_12_method_115_code 2 (Option.none : Option Jvm.ClassFile.FieldType) ∈ ALL := mr5 (List.mem_of_getElem? (i := 178) rfl) rfl
theorem q1551 : Cond.methodLink "ControlTextModel" 487 yX8_itemBlock ∈ ALL := mr5 (List.mem_of_getElem? (i := 179) rfl) rfl
theorem q1553 : Cond.instanceMethod yX8_itemBlock ∈ ALL := mr5 (List.mem_of_getElem? (i := 181) rfl) rfl
theorem q1554 : Cond.code yX8_itemBlock prog_12_method_108_code 4 (Option.none : Option Jvm.ClassFile.FieldType) ∈ ALL := mr5 (List.mem_of_getElem? (i := 182) rfl) rfl
theorem q1555 : Cond.methodLink "ControlTextModel" 465 yX8_second ∈ ALL := mr5 (List.mem_of_getElem? (i := 183) rfl) rfl
theorem q1557 : Cond.instanceMethod yX8_second ∈ ALL := mr5 (List.mem_of_getElem? (i := 185) rfl) rfl
theorem q1558 : Cond.code yX8_second prog_12_method_105_code 2 (Option.some Jvm.ClassFile.FieldType.int) ∈ ALL := mr5 (List.mem_of_getElem? (i := 186) rfl) rfl
theorem q1559 : Cond.methodLink "ControlTextModel" 468 yX8_itemAll ∈ ALL := mr5 (List.mem_of_getElem? (i := 187) rfl) rfl
theorem q1561 : Cond.instanceMethod yX8_itemAll ∈ ALL := mr5 (List.mem_of_getElem? (i := 189) rfl) rfl
theorem q1562 : Cond.code yX8_itemAll prog_12_method_111_code 5 (Option.none : Option Jvm.ClassFile.FieldType) ∈ ALL := mr5 (List.mem_of_getElem? (i := 190) rfl) rfl
theorem q1563 : Cond.methodLink "ControlTextModel" 490 yX8_putPlace ∈ ALL := mr5 (List.mem_of_getElem? (i := 191) rfl) rfl
theorem q1565 : Cond.instanceMethod yX8_putPlace ∈ ALL := mr5 (List.mem_of_getElem? (i := 193) rfl) rfl
theorem q1566 : Cond.code yX8_putPlace prog_12_method_104_code 3 (Option.none : Option Jvm.ClassFile.FieldType) ∈ ALL := mr5 (List.mem_of_getElem? (i := 194) rfl) rfl
theorem q1567 : Cond.methodLink "ControlTextModel" 493 yX8_itemArray ∈ ALL := mr5 (List.mem_of_getElem? (i := 195) rfl) rfl
theorem q1569 : Cond.instanceMethod yX8_itemArray ∈ ALL := mr5 (List.mem_of_getElem? (i := 197) rfl) rfl
theorem q1570 : Cond.code yX8_itemArray prog_12_method_110_code 2 (Option.none : Option Jvm.ClassFile.FieldType) ∈ ALL := mr5 (List.mem_of_getElem? (i := 198) rfl) rfl
theorem q1571 : Cond.methodLink "ControlTextModel" 502 yX8_openStatement ∈ ALL := mr5 (List.mem_of_getElem? (i := 199) rfl) rfl
theorem q1573 : Cond.instanceMethod yX8_openStatement ∈ ALL := mr5 (List.mem_of_getElem? (i := 201) rfl) rfl
theorem q1574 : Cond.code yX8_openStatement prog_12_method_112_code 2 (Option.none : Option Jvm.ClassFile.FieldType) ∈ ALL := mr5 (List.mem_of_getElem? (i := 202) rfl) rfl
theorem q1575 : Cond.methodLink "ControlTextModel" 471 yX8_itemFor ∈ ALL := mr5 (List.mem_of_getElem? (i := 203) rfl) rfl
theorem q1577 : Cond.instanceMethod yX8_itemFor ∈ ALL := mr5 (List.mem_of_getElem? (i := 205) rfl) rfl
theorem q1578 : Cond.code yX8_itemFor prog_12_method_109_code 5 (Option.none : Option Jvm.ClassFile.FieldType) ∈ ALL := mr5 (List.mem_of_getElem? (i := 206) rfl) rfl
theorem q1579 : Cond.methodLink "ControlTextModel" 505 yX8_openRung ∈ ALL := mr5 (List.mem_of_getElem? (i := 207) rfl) rfl
theorem q1581 : Cond.instanceMethod yX8_openRung ∈ ALL := mr5 (List.mem_of_getElem? (i := 209) rfl) rfl
theorem q1582 : Cond.code yX8_openRung prog_12_method_114_code 3 (Option.none : Option Jvm.ClassFile.FieldType) ∈ ALL := mr5 (List.mem_of_getElem? (i := 210) rfl) rfl
theorem q1583 : Cond.methodLink "ControlTextModel" 508 yX8_openOperand ∈ ALL := mr5 (List.mem_of_getElem? (i := 211) rfl) rfl
theorem q1585 : Cond.instanceMethod yX8_openOperand ∈ ALL := mr5 (List.mem_of_getElem? (i := 213) rfl) rfl
theorem q1586 : Cond.code yX8_openOperand prog_12_method_113_code 2 (Option.none : Option Jvm.ClassFile.FieldType) ∈ ALL := mr5 (List.mem_of_getElem? (i := 214) rfl) rfl
theorem q1587 : Cond.methodLink "ControlTextModel" 474 yX8_putNumber ∈ ALL := mr5 (List.mem_of_getElem? (i := 215) rfl) rfl
theorem q1589 : Cond.instanceMethod yX8_putNumber ∈ ALL := mr5 (List.mem_of_getElem? (i := 217) rfl) rfl
theorem q1590 : Cond.code yX8_putNumber prog_12_method_103_code 6 (Option.none : Option Jvm.ClassFile.FieldType) ∈ ALL := mr5 (List.mem_of_getElem? (i := 218) rfl) rfl
theorem q1591 : Cond.constantLong "ControlTextModel" 458 9 ∈ ALL := mr5 (List.mem_of_getElem? (i := 219) rfl) rfl
theorem q1592 : Cond.constantLong "ControlTextModel" 460 10 ∈ ALL := mr5 (List.mem_of_getElem? (i := 220) rfl) rfl
theorem q1593 : Cond.methodLink "ControlTextModel" 480 yX8_itemOperand ∈ ALL := mr5 (List.mem_of_getElem? (i := 221) rfl) rfl
theorem q1595 : Cond.instanceMethod yX8_itemOperand ∈ ALL := mr5 (List.mem_of_getElem? (i := 223) rfl) rfl
theorem q1596 : Cond.code yX8_itemOperand prog_12_method_106_code 8 (Option.none : Option Jvm.ClassFile.FieldType) ∈ ALL := mr5 (List.mem_of_getElem? (i := 224) rfl) rfl
theorem q1597 : Cond.methodLink "ControlTextModel" 484 yX8_tokenOf ∈ ALL := mr5 (List.mem_of_getElem? (i := 225) rfl) rfl
theorem q1598 : Cond.static yX8_tokenOf ∈ ALL := mr5 (List.mem_of_getElem? (i := 226) rfl) rfl
theorem q1599 : Cond.code yX8_tokenOf prog_12_method_107_code 1 (Option.some Jvm.ClassFile.FieldType.int) ∈ ALL := mr5 (List.mem_of_getElem? (i := 227) rfl) rfl
theorem q1600 : Cond.methodLink "ControlTextModel" 517 yX8_openIf ∈ ALL := mr5 (List.mem_of_getElem? (i := 228) rfl) rfl
theorem q1602 : Cond.instanceMethod yX8_openIf ∈ ALL := mr5 (List.mem_of_getElem? (i := 230) rfl) rfl
theorem q1603 : Cond.code yX8_openIf prog_12_method_118_code 3 (Option.none : Option Jvm.ClassFile.FieldType) ∈ ALL := mr5 (List.mem_of_getElem? (i := 231) rfl) rfl
theorem q1604 : Cond.methodLink "ControlTextModel" 520 yX8_openCase ∈ ALL := mr5 (List.mem_of_getElem? (i := 232) rfl) rfl
theorem q1606 : Cond.instanceMethod yX8_openCase ∈ ALL := mr5 (List.mem_of_getElem? (i := 234) rfl) rfl
theorem q1607 : Cond.code yX8_openCase prog_12_method_119_code 2 (Option.none : Option Jvm.ClassFile.FieldType) ∈ ALL := mr5 (List.mem_of_getElem? (i := 235) rfl) rfl
theorem q1608 : Cond.methodLink "ControlTextModel" 523 yX8_openRow ∈ ALL := mr5 (List.mem_of_getElem? (i := 236) rfl) rfl
theorem q1610 : Cond.instanceMethod yX8_openRow ∈ ALL := mr5 (List.mem_of_getElem? (i := 238) rfl) rfl
theorem q1611 : Cond.code yX8_openRow prog_12_method_120_code 4 (Option.none : Option Jvm.ClassFile.FieldType) ∈ ALL := mr5 (List.mem_of_getElem? (i := 239) rfl) rfl
theorem q1612 : Cond.methodLink "ControlTextLaw" 56 yX8_byteAt ∈ ALL := mr6 (List.mem_of_getElem? (i := 0) rfl) rfl
theorem q1613 : Cond.instanceMethod yX8_byteAt ∈ ALL := mr6 (List.mem_of_getElem? (i := 1) rfl) rfl
theorem q1614 : Cond.selects "ControlTextModel" yX8_byteAt yX8_byteAt ∈ ALL := mr6 (List.mem_of_getElem? (i := 2) rfl) rfl
theorem q1615 : Cond.code yX8_byteAt prog_12_method_123_code 2 (Option.some Jvm.ClassFile.FieldType.int) ∈ ALL := mr6 (List.mem_of_getElem? (i := 3) rfl) rfl
theorem q1616 : Cond.methodLink "ControlTextLaw" 60 yX8_back ∈ ALL := mr6 (List.mem_of_getElem? (i := 4) rfl) rfl
theorem q1617 : Cond.instanceMethod yX8_back ∈ ALL := mr6 (List.mem_of_getElem? (i := 5) rfl) rfl
theorem q1618 : Cond.selects "ControlTextModel" yX8_back yX8_back ∈ ALL := mr6 (List.mem_of_getElem? (i := 6) rfl) rfl
theorem q1619 : Cond.code yX8_back prog_12_method_124_code 2 (Option.some Jvm.ClassFile.FieldType.int) ∈ ALL := mr6 (List.mem_of_getElem? (i := 7) rfl) rfl
theorem q1620 : Cond.fieldLink "java/lang/String" 9 "java/lang/String" "value" "[B" ∈ ALL := mr6 (List.mem_of_getElem? (i := 8) rfl) rfl
theorem q1621 : Cond.fieldLink "java/lang/String" 15 "java/lang/String" "coder" "B" ∈ ALL := mr6 (List.mem_of_getElem? (i := 9) rfl) rfl
theorem inA {c0 w : Cond} (h : w ∈ ALL) : w ∈ c0 :: ALL := List.mem_cons_of_mem _ h
theorem good_all {c0 : Cond} {ws : List Cond} (h : ∀ w ∈ ws, w ∈ ALL) : GoodIn (c0 :: ALL) ws := fun w hw => ⟨inA (h w hw), good_of_word (ALL_ok (h w hw)).2⟩
abbrev wsM (y : MethodName) (b : ByteArray) (n : Nat) (r : Option FieldType) : List Cond := Cond.code y b n r :: ALL
def MV (y : MethodName) (b : ByteArray) (n : Nat) (r : Option FieldType) (k : Nat) : Prop := Cond.instanceMethod y ∈ ALL ∧ Cond.selects y.cls y y ∈ ALL ∧ Cond.initialized y.cls ∈ ALL ∧ Cond.code y b n r ∈ ALL ∧ y.cls ≠ "java/lang/invoke/MethodHandle" ∧ y.cls ≠ "java/lang/invoke/VarHandle" ∧ (parseMethodDescriptor y.desc).map (fun d => d.parameters.length) = some k
def MS (y : MethodName) (b : ByteArray) (n : Nat) (r : Option FieldType) (k : Nat) : Prop := Cond.static y ∈ ALL ∧ Cond.initialized y.cls ∈ ALL ∧ Cond.code y b n r ∈ ALL ∧ y.cls ≠ "java/lang/invoke/MethodHandle" ∧ y.cls ≠ "java/lang/invoke/VarHandle" ∧ (parseMethodDescriptor y.desc).map (fun d => d.parameters.length) = some k
def MI (y : MethodName) (b : ByteArray) (n : Nat) (k : Nat) : Prop := Cond.instanceMethod y ∈ ALL ∧ Cond.initialized y.cls ∈ ALL ∧ Cond.code y b n none ∈ ALL ∧ y.cls ≠ "java/lang/invoke/MethodHandle" ∧ y.cls ≠ "java/lang/invoke/VarHandle" ∧ (parseMethodDescriptor y.desc).map (fun d => d.parameters.length) = some k ∧ y.name = "<init>"
section CW
variable {R : Room} {s : State} {args : Array Value} {c0 : Cond} {own : String} {idx : Nat} {y : MethodName} {b : ByteArray} {nl n mc ms : Nat} {r : Option FieldType} {rm : Room}
theorem code_in (h : Cond.code y b nl r ∈ ALL) : ∀ w ∈ wsM y b nl r, w ∈ ALL := fun w hw => (List.mem_cons.mp hw).elim (fun e => by rw [e]; exact h) id
theorem cwV2 (hts : ∀ w ∈ c0 :: ALL, w.before args s = true) (hl : Cond.methodLink own idx y ∈ ALL) (h : MV y b nl r n) (hrc : rm.cells = mc) (hrs : rm.slots = ms) (hR : rm.frames + 1 ≤ R.frames ∧ 8 + (nl + 11) + rm.locals ≤ R.locals) : CallW R s args own y.cls idx y b nl r (wsM y b nl r) rm mc ms n :=
  ⟨callB_of n hts (good_all (code_in h.2.2.2.1)) rfl hrc hrs (hts _ (inA h.2.2.1)) (hts _ (inA hl)) h.2.2.2.2 hR, hts _ (inA h.1), hts _ (inA h.2.1)⟩
theorem cwS2 (hts : ∀ w ∈ c0 :: ALL, w.before args s = true) (hl : Cond.methodLink own idx y ∈ ALL) (h : MS y b nl r n) (hrc : rm.cells = mc) (hrs : rm.slots = ms) (hR : rm.frames + 1 ≤ R.frames ∧ 8 + (nl + 11) + rm.locals ≤ R.locals) : CallB R s args own idx y b nl r (wsM y b nl r) rm mc ms n ∧ (Cond.static y).before args s = true :=
  ⟨callB_of n hts (good_all (code_in h.2.2.1)) rfl hrc hrs (hts _ (inA h.2.1)) (hts _ (inA hl)) h.2.2.2 hR, hts _ (inA h.1)⟩
theorem cwSN2 {host : String} (hts : ∀ w ∈ c0 :: ALL, w.before args s = true) (hl : va_Nw (.methodLinkNest own idx y host) s) (h : MS y b nl r n) (hrc : rm.cells = mc) (hrs : rm.slots = ms) (hR : rm.frames + 1 ≤ R.frames ∧ 8 + (nl + 11) + rm.locals ≤ R.locals) : va_CN R s args own idx y host b nl r (wsM y b nl r) rm mc ms n ∧ (Cond.static y).before args s = true ∧ True :=
  ⟨va_cnB n hts (good_all (code_in h.2.2.1)) rfl hrc hrs hl (hts _ (inA h.2.1)) h.2.2.2 hR, hts _ (inA h.1), trivial⟩
theorem cwI2 (hts : ∀ w ∈ c0 :: ALL, w.before args s = true) (hl : Cond.methodLink own idx y ∈ ALL) (h : MI y b nl n) (hrc : rm.cells = mc) (hrs : rm.slots = ms) (hR : rm.frames + 1 ≤ R.frames ∧ 8 + (nl + 11) + rm.locals ≤ R.locals) : CallB R s args own idx y b nl none (wsM y b nl none) rm mc ms n ∧ y.name = "<init>" ∧ (Cond.instanceMethod y).before args s = true :=
  ⟨callB_of n hts (good_all (code_in h.2.2.1)) rfl hrc hrs (hts _ (inA h.2.1)) (hts _ (inA hl)) ⟨h.2.2.2.1, h.2.2.2.2.1, h.2.2.2.2.2.1⟩ hR, h.2.2.2.2.2.2, hts _ (inA h.1)⟩
end CW
theorem mvX0_cut : MV yX0_cut cX0_cut 2 (Option.none : Option Jvm.ClassFile.FieldType) 1 := ⟨q479, q480, q174, q481, by decide +kernel, by decide +kernel, by decide +kernel⟩
theorem mvX0_put : MV yX0_put cX0_put 2 (Option.none : Option Jvm.ClassFile.FieldType) 1 := ⟨q491, q492, q174, q493, by decide +kernel, by decide +kernel, by decide +kernel⟩
theorem mvX6_feedNumber : MV yX6_feedNumber cX6_feedNumber 3 (Option.none : Option Jvm.ClassFile.FieldType) 1 := ⟨q488, q5, q173, q489, by decide +kernel, by decide +kernel, by decide +kernel⟩
theorem mvX0_get : MV yX0_get cX0_get 2 (Option.some Jvm.ClassFile.FieldType.int) 1 := ⟨q507, q508, q174, q509, by decide +kernel, by decide +kernel, by decide +kernel⟩
theorem mvX0_swap : MV yX0_swap cX0_swap 4 (Option.some Jvm.ClassFile.FieldType.int) 2 := ⟨q503, q504, q174, q505, by decide +kernel, by decide +kernel, by decide +kernel⟩
theorem mvX3_add : MV yX3_add cX3_add 6 (Option.some Jvm.ClassFile.FieldType.int) 4 := ⟨q623, q624, q181, q625, by decide +kernel, by decide +kernel, by decide +kernel⟩
theorem mvX4_take : MV yX4_take cX4_take 3 (Option.none : Option Jvm.ClassFile.FieldType) 1 := ⟨q616, q18, q182, q617, by decide +kernel, by decide +kernel, by decide +kernel⟩
theorem mvX4_kindOfBlock : MS yX4_kindOfBlock cX4_kindOfBlock 1 (Option.some Jvm.ClassFile.FieldType.int) 1 := ⟨q635, q182, q636, by decide +kernel, by decide +kernel, by decide +kernel⟩
theorem mvX4_takeName : MV yX4_takeName cX4_takeName 2 (Option.some Jvm.ClassFile.FieldType.int) 0 := ⟨q639, q21, q182, q640, by decide +kernel, by decide +kernel, by decide +kernel⟩
theorem mvX4_simpleType : MV yX4_simpleType cX4_simpleType 2 (Option.none : Option Jvm.ClassFile.FieldType) 1 := ⟨q643, q22, q182, q644, by decide +kernel, by decide +kernel, by decide +kernel⟩
theorem mvX3_has : MV yX3_has cX3_has 2 (Option.some Jvm.ClassFile.FieldType.boolean) 1 := ⟨q761, q47, q181, q762, by decide +kernel, by decide +kernel, by decide +kernel⟩
theorem mvX4_operand : MV yX4_operand cX4_operand 3 (Option.none : Option Jvm.ClassFile.FieldType) 1 := ⟨q733, q43, q182, q734, by decide +kernel, by decide +kernel, by decide +kernel⟩
theorem mvX7_operation : MS yX7_operation cX7_operation 1 (Option.some Jvm.ClassFile.FieldType.int) 1 := ⟨q748, q186, q749, by decide +kernel, by decide +kernel, by decide +kernel⟩
theorem mvX7_binding : MS yX7_binding cX7_binding 1 (Option.some Jvm.ClassFile.FieldType.int) 1 := ⟨q751, q186, q752, by decide +kernel, by decide +kernel, by decide +kernel⟩
theorem mvX4_mayOpen : MV yX4_mayOpen cX4_mayOpen 1 (Option.some Jvm.ClassFile.FieldType.boolean) 0 := ⟨q721, q40, q182, q722, by decide +kernel, by decide +kernel, by decide +kernel⟩
theorem mvX3_wrap : MV yX3_wrap cX3_wrap 6 (Option.none : Option Jvm.ClassFile.FieldType) 4 := ⟨q756, q757, q181, q758, by decide +kernel, by decide +kernel, by decide +kernel⟩
theorem mvX4_expression : MV yX4_expression cX4_expression 7 (Option.none : Option Jvm.ClassFile.FieldType) 2 := ⟨q729, q42, q182, q730, by decide +kernel, by decide +kernel, by decide +kernel⟩
theorem mvX4_takeOpening : MV yX4_takeOpening cX4_takeOpening 1 (Option.none : Option Jvm.ClassFile.FieldType) 0 := ⟨q717, q39, q182, q718, by decide +kernel, by decide +kernel, by decide +kernel⟩
theorem mvX4_takeComma : MV yX4_takeComma cX4_takeComma 1 (Option.some Jvm.ClassFile.FieldType.boolean) 0 := ⟨q745, q46, q182, q746, by decide +kernel, by decide +kernel, by decide +kernel⟩
theorem mvX4_takeClosing : MV yX4_takeClosing cX4_takeClosing 2 (Option.none : Option Jvm.ClassFile.FieldType) 1 := ⟨q737, q44, q182, q738, by decide +kernel, by decide +kernel, by decide +kernel⟩
theorem mvX4_nameNode : MV yX4_nameNode cX4_nameNode 2 (Option.none : Option Jvm.ClassFile.FieldType) 1 := ⟨q659, q26, q182, q660, by decide +kernel, by decide +kernel, by decide +kernel⟩
theorem mvX4_operandByName : MV yX4_operandByName cX4_operandByName 8 (Option.none : Option Jvm.ClassFile.FieldType) 1 := ⟨q741, q45, q182, q742, by decide +kernel, by decide +kernel, by decide +kernel⟩
theorem mvX4_literal : MV yX4_literal cX4_literal 2 (Option.none : Option Jvm.ClassFile.FieldType) 1 := ⟨q671, q29, q182, q672, by decide +kernel, by decide +kernel, by decide +kernel⟩
theorem mvX4_outermostExpression : MV yX4_outermostExpression cX4_outermostExpression 2 (Option.none : Option Jvm.ClassFile.FieldType) 1 := ⟨q725, q41, q182, q726, by decide +kernel, by decide +kernel, by decide +kernel⟩
theorem mvX4_constant : MV yX4_constant cX4_constant 3 (Option.none : Option Jvm.ClassFile.FieldType) 1 := ⟨q667, q28, q182, q668, by decide +kernel, by decide +kernel, by decide +kernel⟩
theorem mvX4_startsConstant : MV yX4_startsConstant cX4_startsConstant 1 (Option.some Jvm.ClassFile.FieldType.boolean) 0 := ⟨q780, q51, q182, q781, by decide +kernel, by decide +kernel, by decide +kernel⟩
theorem mvX4_ranges : MV yX4_ranges cX4_ranges 5 (Option.none : Option Jvm.ClassFile.FieldType) 1 := ⟨q784, q52, q182, q785, by decide +kernel, by decide +kernel, by decide +kernel⟩
theorem mvX4_body : MV yX4_body cX4_body 5 (Option.none : Option Jvm.ClassFile.FieldType) 1 := ⟨q705, q36, q182, q706, by decide +kernel, by decide +kernel, by decide +kernel⟩
theorem mvX4_assignment : MV yX4_assignment cX4_assignment 6 (Option.none : Option Jvm.ClassFile.FieldType) 3 := ⟨q768, q48, q182, q769, by decide +kernel, by decide +kernel, by decide +kernel⟩
theorem mvX4_invocation : MV yX4_invocation cX4_invocation 9 (Option.none : Option Jvm.ClassFile.FieldType) 3 := ⟨q713, q38, q182, q714, by decide +kernel, by decide +kernel, by decide +kernel⟩
theorem mvX4_ifStatement : MV yX4_ifStatement cX4_ifStatement 4 (Option.none : Option Jvm.ClassFile.FieldType) 1 := ⟨q772, q49, q182, q773, by decide +kernel, by decide +kernel, by decide +kernel⟩
theorem mvX4_caseStatement : MV yX4_caseStatement cX4_caseStatement 5 (Option.none : Option Jvm.ClassFile.FieldType) 1 := ⟨q776, q50, q182, q777, by decide +kernel, by decide +kernel, by decide +kernel⟩
theorem mvX4_forStatement : MV yX4_forStatement cX4_forStatement 4 (Option.none : Option Jvm.ClassFile.FieldType) 1 := ⟨q788, q53, q182, q789, by decide +kernel, by decide +kernel, by decide +kernel⟩
theorem mvX4_statement : MV yX4_statement cX4_statement 4 (Option.some Jvm.ClassFile.FieldType.boolean) 1 := ⟨q709, q37, q182, q710, by decide +kernel, by decide +kernel, by decide +kernel⟩
theorem mvX4_coilValue : MS yX4_coilValue cX4_coilValue 1 (Option.some Jvm.ClassFile.FieldType.int) 1 := ⟨q690, q182, q691, by decide +kernel, by decide +kernel, by decide +kernel⟩
theorem mvX4_contactValue : MS yX4_contactValue cX4_contactValue 1 (Option.some Jvm.ClassFile.FieldType.int) 1 := ⟨q697, q182, q698, by decide +kernel, by decide +kernel, by decide +kernel⟩
theorem mvX4_contact : MV yX4_contact cX4_contact 6 (Option.none : Option Jvm.ClassFile.FieldType) 1 := ⟨q694, q34, q182, q695, by decide +kernel, by decide +kernel, by decide +kernel⟩
theorem mvX4_coil : MV yX4_coil cX4_coil 5 (Option.none : Option Jvm.ClassFile.FieldType) 1 := ⟨q687, q33, q182, q688, by decide +kernel, by decide +kernel, by decide +kernel⟩
theorem mvX4_cell : MV yX4_cell cX4_cell 2 (Option.none : Option Jvm.ClassFile.FieldType) 1 := ⟨q683, q32, q182, q684, by decide +kernel, by decide +kernel, by decide +kernel⟩
theorem mvX4_startsCell : MV yX4_startsCell cX4_startsCell 1 (Option.some Jvm.ClassFile.FieldType.boolean) 0 := ⟨q701, q35, q182, q702, by decide +kernel, by decide +kernel, by decide +kernel⟩
theorem mvX4_row : MV yX4_row cX4_row 4 (Option.none : Option Jvm.ClassFile.FieldType) 1 := ⟨q679, q31, q182, q680, by decide +kernel, by decide +kernel, by decide +kernel⟩
theorem mvX4_type : MV yX4_type cX4_type 3 (Option.none : Option Jvm.ClassFile.FieldType) 1 := ⟨q663, q27, q182, q664, by decide +kernel, by decide +kernel, by decide +kernel⟩
theorem mvX4_startsSection : MV yX4_startsSection cX4_startsSection 1 (Option.some Jvm.ClassFile.FieldType.boolean) 0 := ⟨q651, q24, q182, q652, by decide +kernel, by decide +kernel, by decide +kernel⟩
theorem mvX4_declaration : MV yX4_declaration cX4_declaration 4 (Option.none : Option Jvm.ClassFile.FieldType) 1 := ⟨q655, q25, q182, q656, by decide +kernel, by decide +kernel, by decide +kernel⟩
theorem mvX2_kind : MV yX2_kind cX2_kind 2 (Option.some Jvm.ClassFile.FieldType.int) 1 := ⟨q607, q608, q180, q609, by decide +kernel, by decide +kernel, by decide +kernel⟩
theorem mvX2_place : MV yX2_place cX2_place 2 (Option.some Jvm.ClassFile.FieldType.int) 1 := ⟨q803, q804, q180, q805, by decide +kernel, by decide +kernel, by decide +kernel⟩
theorem mvX2_value : MV yX2_value cX2_value 2 (Option.some Jvm.ClassFile.FieldType.int) 1 := ⟨q799, q800, q180, q801, by decide +kernel, by decide +kernel, by decide +kernel⟩
theorem mvX3_forget : MV yX3_forget cX3_forget 1 (Option.none : Option Jvm.ClassFile.FieldType) 0 := ⟨q619, q620, q181, q621, by decide +kernel, by decide +kernel, by decide +kernel⟩
theorem mvX4_startsBlock : MV yX4_startsBlock cX4_startsBlock 1 (Option.some Jvm.ClassFile.FieldType.boolean) 0 := ⟨q628, q19, q182, q629, by decide +kernel, by decide +kernel, by decide +kernel⟩
theorem mvX4_blockHead : MV yX4_blockHead cX4_blockHead 5 (Option.some Jvm.ClassFile.FieldType.int) 1 := ⟨q632, q20, q182, q633, by decide +kernel, by decide +kernel, by decide +kernel⟩
theorem mvX4_sections : MV yX4_sections cX4_sections 5 (Option.none : Option Jvm.ClassFile.FieldType) 1 := ⟨q647, q23, q182, q648, by decide +kernel, by decide +kernel, by decide +kernel⟩
theorem mvX4_endOfBlock : MS yX4_endOfBlock cX4_endOfBlock 1 (Option.some Jvm.ClassFile.FieldType.int) 1 := ⟨q791, q182, q792, by decide +kernel, by decide +kernel, by decide +kernel⟩
theorem mvX4_ladder : MV yX4_ladder cX4_ladder 6 (Option.none : Option Jvm.ClassFile.FieldType) 1 := ⟨q675, q30, q182, q676, by decide +kernel, by decide +kernel, by decide +kernel⟩
theorem mvX4_tellFault : MV yX4_tellFault cX4_tellFault 2 (Option.none : Option Jvm.ClassFile.FieldType) 0 := ⟨q795, q54, q182, q796, by decide +kernel, by decide +kernel, by decide +kernel⟩
theorem mvX6_great : MS yX6_great cX6_great 1 (Option.some Jvm.ClassFile.FieldType.int) 1 := ⟨q297, q173, q298, by decide +kernel, by decide +kernel, by decide +kernel⟩
theorem mvX1_startOf : MV yX1_startOf cX1_startOf 2 (Option.some Jvm.ClassFile.FieldType.int) 1 := ⟨q282, q2, q175, q283, by decide +kernel, by decide +kernel, by decide +kernel⟩
theorem mvX1_firstSlot : MV yX1_firstSlot cX1_firstSlot 3 (Option.some Jvm.ClassFile.FieldType.int) 0 := ⟨q278, q1, q175, q279, by decide +kernel, by decide +kernel, by decide +kernel⟩
theorem mvX1_isAddedLast : MV yX1_isAddedLast cX1_isAddedLast 6 (Option.some Jvm.ClassFile.FieldType.boolean) 1 := ⟨q290, q4, q175, q291, by decide +kernel, by decide +kernel, by decide +kernel⟩
theorem mvX1_keep : MV yX1_keep cX1_keep 3 (Option.some Jvm.ClassFile.FieldType.int) 1 := ⟨q286, q3, q175, q287, by decide +kernel, by decide +kernel, by decide +kernel⟩
theorem mvX6_isNameByte : MS yX6_isNameByte cX6_isNameByte 1 (Option.some Jvm.ClassFile.FieldType.boolean) 1 := ⟨q572, q173, q573, by decide +kernel, by decide +kernel, by decide +kernel⟩
theorem mvX1_addLetter : MV yX1_addLetter cX1_addLetter 2 (Option.none : Option Jvm.ClassFile.FieldType) 1 := ⟨q293, q294, q175, q295, by decide +kernel, by decide +kernel, by decide +kernel⟩
theorem mvX1_number : MV yX1_number cX1_number 4 (Option.some Jvm.ClassFile.FieldType.int) 0 := ⟨q273, q274, q175, q275, by decide +kernel, by decide +kernel, by decide +kernel⟩
theorem mvX2_add : MV yX2_add cX2_add 4 (Option.none : Option Jvm.ClassFile.FieldType) 3 := ⟨q537, q9, q180, q538, by decide +kernel, by decide +kernel, by decide +kernel⟩
theorem mvX6_isDigit : MS yX6_isDigit cX6_isDigit 1 (Option.some Jvm.ClassFile.FieldType.boolean) 1 := ⟨q552, q173, q553, by decide +kernel, by decide +kernel, by decide +kernel⟩
theorem mvX2_digit : MS yX2_digit cX2_digit 2 (Option.some Jvm.ClassFile.FieldType.int) 1 := ⟨q549, q180, q550, by decide +kernel, by decide +kernel, by decide +kernel⟩
theorem mvX10_min : MS yX10_min cX10_min 4 (Option.some Jvm.ClassFile.FieldType.long) 2 := ⟨q556, q185, q557, by decide +kernel, by decide +kernel, by decide +kernel⟩
theorem mvX2_digits : MV yX2_digits cX2_digits 7 (Option.some Jvm.ClassFile.FieldType.long) 1 := ⟨q546, q11, q180, q547, by decide +kernel, by decide +kernel, by decide +kernel⟩
theorem mvX2_addNumber : MV yX2_addNumber cX2_addNumber 4 (Option.none : Option Jvm.ClassFile.FieldType) 2 := ⟨q568, q13, q180, q569, by decide +kernel, by decide +kernel, by decide +kernel⟩
theorem mvX2_placeRow : MS yX2_placeRow cX2_placeRow 3 (Option.some Jvm.ClassFile.FieldType.int) 2 := ⟨q591, q180, q592, by decide +kernel, by decide +kernel, by decide +kernel⟩
theorem mvX10_max : MS yX10_max cX10_max 2 (Option.some Jvm.ClassFile.FieldType.int) 2 := ⟨q598, q185, q599, by decide +kernel, by decide +kernel, by decide +kernel⟩
theorem mvX2_isSignOfTwo : MS yX2_isSignOfTwo cX2_isSignOfTwo 1 (Option.some Jvm.ClassFile.FieldType.boolean) 1 := ⟨q601, q180, q602, by decide +kernel, by decide +kernel, by decide +kernel⟩
theorem mvX2_isSignOfOne : MS yX2_isSignOfOne cX2_isSignOfOne 1 (Option.some Jvm.ClassFile.FieldType.boolean) 1 := ⟨q604, q180, q605, by decide +kernel, by decide +kernel, by decide +kernel⟩
theorem mvX2_unit : MV yX2_unit cX2_unit 2 (Option.some Jvm.ClassFile.FieldType.long) 0 := ⟨q561, q12, q180, q562, by decide +kernel, by decide +kernel, by decide +kernel⟩
theorem mvX2_endOfComment : MV yX2_endOfComment cX2_endOfComment 3 (Option.some Jvm.ClassFile.FieldType.int) 1 := ⟨q533, q8, q180, q534, by decide +kernel, by decide +kernel, by decide +kernel⟩
theorem mvX2_skipBlanks : MV yX2_skipBlanks cX2_skipBlanks 4 (Option.some Jvm.ClassFile.FieldType.boolean) 0 := ⟨q528, q7, q180, q529, by decide +kernel, by decide +kernel, by decide +kernel⟩
theorem mvX2_scanSign : MV yX2_scanSign cX2_scanSign 4 (Option.none : Option Jvm.ClassFile.FieldType) 0 := ⟨q595, q17, q180, q596, by decide +kernel, by decide +kernel, by decide +kernel⟩
theorem mvX2_scanPlace : MV yX2_scanPlace cX2_scanPlace 6 (Option.none : Option Jvm.ClassFile.FieldType) 0 := ⟨q588, q16, q180, q589, by decide +kernel, by decide +kernel, by decide +kernel⟩
theorem mvX2_scanName : MV yX2_scanName cX2_scanName 3 (Option.none : Option Jvm.ClassFile.FieldType) 0 := ⟨q582, q15, q180, q583, by decide +kernel, by decide +kernel, by decide +kernel⟩
theorem mvX2_scanNumber : MV yX2_scanNumber cX2_scanNumber 4 (Option.none : Option Jvm.ClassFile.FieldType) 0 := ⟨q576, q14, q180, q577, by decide +kernel, by decide +kernel, by decide +kernel⟩
theorem mvX2_scanTime : MV yX2_scanTime cX2_scanTime 6 (Option.none : Option Jvm.ClassFile.FieldType) 0 := ⟨q542, q10, q180, q543, by decide +kernel, by decide +kernel, by decide +kernel⟩
theorem mvX1_forget : MV yX1_forget cX1_forget 3 (Option.none : Option Jvm.ClassFile.FieldType) 0 := ⟨q519, q520, q175, q521, by decide +kernel, by decide +kernel, by decide +kernel⟩
theorem mvX2_scanToken : MV yX2_scanToken cX2_scanToken 3 (Option.none : Option Jvm.ClassFile.FieldType) 0 := ⟨q524, q6, q180, q525, by decide +kernel, by decide +kernel, by decide +kernel⟩
theorem mvX3_firstUnfilled : MV yX3_firstUnfilled cX3_firstUnfilled 4 (Option.some Jvm.ClassFile.FieldType.int) 1 := ⟨q812, q55, q181, q813, by decide +kernel, by decide +kernel, by decide +kernel⟩
theorem mvX2_scan : MV yX2_scan cX2_scan 4 (Option.none : Option Jvm.ClassFile.FieldType) 0 := ⟨q515, q516, q180, q517, by decide +kernel, by decide +kernel, by decide +kernel⟩
theorem mvX4_parse : MV yX4_parse cX4_parse 5 (Option.none : Option Jvm.ClassFile.FieldType) 0 := ⟨q611, q612, q182, q613, by decide +kernel, by decide +kernel, by decide +kernel⟩
theorem mvX3_link : MV yX3_link cX3_link 3 (Option.none : Option Jvm.ClassFile.FieldType) 0 := ⟨q807, q808, q181, q809, by decide +kernel, by decide +kernel, by decide +kernel⟩
theorem mvX3_kind : MV yX3_kind cX3_kind 2 (Option.some Jvm.ClassFile.FieldType.int) 1 := ⟨q825, q826, q181, q827, by decide +kernel, by decide +kernel, by decide +kernel⟩
theorem mvX3_place : MV yX3_place cX3_place 2 (Option.some Jvm.ClassFile.FieldType.int) 1 := ⟨q829, q830, q181, q831, by decide +kernel, by decide +kernel, by decide +kernel⟩
theorem mvX3_value : MV yX3_value cX3_value 2 (Option.some Jvm.ClassFile.FieldType.int) 1 := ⟨q833, q834, q181, q835, by decide +kernel, by decide +kernel, by decide +kernel⟩
theorem mvX3_parent : MV yX3_parent cX3_parent 2 (Option.some Jvm.ClassFile.FieldType.int) 1 := ⟨q837, q838, q181, q839, by decide +kernel, by decide +kernel, by decide +kernel⟩
theorem mvX3_children : MV yX3_children cX3_children 2 (Option.some Jvm.ClassFile.FieldType.int) 1 := ⟨q841, q842, q181, q843, by decide +kernel, by decide +kernel, by decide +kernel⟩
theorem mvX1_letterOf : MV yX1_letterOf cX1_letterOf 4 (Option.some Jvm.ClassFile.FieldType.int) 2 := ⟨q849, q850, q175, q851, by decide +kernel, by decide +kernel, by decide +kernel⟩
theorem mvX5_contactSign : MS yX5_contactSign cX5_contactSign 1 (Option.some Jvm.ClassFile.FieldType.int) 1 := ⟨q936, q183, q937, by decide +kernel, by decide +kernel, by decide +kernel⟩
theorem mvX3_rank : MV yX3_rank cX3_rank 2 (Option.some Jvm.ClassFile.FieldType.int) 1 := ⟨q895, q896, q181, q897, by decide +kernel, by decide +kernel, by decide +kernel⟩
theorem mvX5_coilSign : MS yX5_coilSign cX5_coilSign 1 (Option.some Jvm.ClassFile.FieldType.int) 1 := ⟨q961, q183, q962, by decide +kernel, by decide +kernel, by decide +kernel⟩
theorem mvX5_part : MV yX5_part cX5_part 1 (Option.none : Option Jvm.ClassFile.FieldType) 0 := ⟨q882, q60, q183, q883, by decide +kernel, by decide +kernel, by decide +kernel⟩
theorem mvX5_word : MV yX5_word cX5_word 4 (Option.none : Option Jvm.ClassFile.FieldType) 1 := ⟨q878, q59, q183, q879, by decide +kernel, by decide +kernel, by decide +kernel⟩
theorem mvX10_abs : MS yX10_abs cX10_abs 1 (Option.some Jvm.ClassFile.FieldType.int) 1 := ⟨q946, q185, q947, by decide +kernel, by decide +kernel, by decide +kernel⟩
theorem mvX5_digits : MV yX5_digits cX5_digits 3 (Option.none : Option Jvm.ClassFile.FieldType) 1 := ⟨q950, q65, q183, q951, by decide +kernel, by decide +kernel, by decide +kernel⟩
theorem mvX5_token : MV yX5_token cX5_token 2 (Option.none : Option Jvm.ClassFile.FieldType) 1 := ⟨q874, q58, q183, q875, by decide +kernel, by decide +kernel, by decide +kernel⟩
theorem mvX5_firstToken : MS yX5_firstToken cX5_firstToken 2 (Option.some Jvm.ClassFile.FieldType.int) 2 := ⟨q933, q183, q934, by decide +kernel, by decide +kernel, by decide +kernel⟩
theorem mvX5_bearsName : MS yX5_bearsName cX5_bearsName 1 (Option.some Jvm.ClassFile.FieldType.boolean) 1 := ⟨q939, q183, q940, by decide +kernel, by decide +kernel, by decide +kernel⟩
theorem mvX5_nextToken : MS yX5_nextToken cX5_nextToken 2 (Option.some Jvm.ClassFile.FieldType.int) 2 := ⟨q958, q183, q959, by decide +kernel, by decide +kernel, by decide +kernel⟩
theorem mvX5_place : MV yX5_place cX5_place 4 (Option.none : Option Jvm.ClassFile.FieldType) 1 := ⟨q955, q66, q183, q956, by decide +kernel, by decide +kernel, by decide +kernel⟩
theorem mvX5_number : MV yX5_number cX5_number 2 (Option.none : Option Jvm.ClassFile.FieldType) 1 := ⟨q943, q64, q183, q944, by decide +kernel, by decide +kernel, by decide +kernel⟩
theorem mvX5_isBracketed : MV yX5_isBracketed cX5_isBracketed 5 (Option.some Jvm.ClassFile.FieldType.boolean) 1 := ⟨q890, q61, q183, q891, by decide +kernel, by decide +kernel, by decide +kernel⟩
theorem mvX5_lastToken : MS yX5_lastToken cX5_lastToken 1 (Option.some Jvm.ClassFile.FieldType.int) 1 := ⟨q899, q183, q900, by decide +kernel, by decide +kernel, by decide +kernel⟩
theorem mvX5_endsBySemicolon : MS yX5_endsBySemicolon cX5_endsBySemicolon 1 (Option.some Jvm.ClassFile.FieldType.boolean) 1 := ⟨q902, q183, q903, by decide +kernel, by decide +kernel, by decide +kernel⟩
theorem mvX5_finish : MV yX5_finish cX5_finish 3 (Option.none : Option Jvm.ClassFile.FieldType) 1 := ⟨q868, q57, q183, q869, by decide +kernel, by decide +kernel, by decide +kernel⟩
theorem mvX5_behindFirst : MS yX5_behindFirst cX5_behindFirst 2 (Option.some Jvm.ClassFile.FieldType.int) 2 := ⟨q920, q183, q921, by decide +kernel, by decide +kernel, by decide +kernel⟩
theorem mvX5_separatorInDeclaration : MS yX5_separatorInDeclaration cX5_separatorInDeclaration 2 (Option.some Jvm.ClassFile.FieldType.int) 2 := ⟨q917, q183, q918, by decide +kernel, by decide +kernel, by decide +kernel⟩
theorem mvX5_separatorInIf : MS yX5_separatorInIf cX5_separatorInIf 2 (Option.some Jvm.ClassFile.FieldType.int) 2 := ⟨q923, q183, q924, by decide +kernel, by decide +kernel, by decide +kernel⟩
theorem mvX5_separatorInFor : MS yX5_separatorInFor cX5_separatorInFor 2 (Option.some Jvm.ClassFile.FieldType.int) 2 := ⟨q926, q183, q927, by decide +kernel, by decide +kernel, by decide +kernel⟩
theorem mvX5_separator : MS yX5_separator cX5_separator 3 (Option.some Jvm.ClassFile.FieldType.int) 3 := ⟨q914, q183, q915, by decide +kernel, by decide +kernel, by decide +kernel⟩
theorem mvX7_between : MS yX7_between cX7_between 1 (Option.some Jvm.ClassFile.FieldType.int) 1 := ⟨q909, q186, q910, by decide +kernel, by decide +kernel, by decide +kernel⟩
theorem mvX5_finishUpTo : MV yX5_finishUpTo cX5_finishUpTo 5 (Option.none : Option Jvm.ClassFile.FieldType) 2 := ⟨q864, q56, q183, q865, by decide +kernel, by decide +kernel, by decide +kernel⟩
theorem mvX5_separate : MV yX5_separate cX5_separate 5 (Option.none : Option Jvm.ClassFile.FieldType) 1 := ⟨q906, q62, q183, q907, by decide +kernel, by decide +kernel, by decide +kernel⟩
theorem mvX5_begin : MV yX5_begin cX5_begin 4 (Option.none : Option Jvm.ClassFile.FieldType) 1 := ⟨q930, q63, q183, q931, by decide +kernel, by decide +kernel, by decide +kernel⟩
theorem mvX5_writeTree : MV yX5_writeTree cX5_writeTree 3 (Option.none : Option Jvm.ClassFile.FieldType) 0 := ⟨q857, q858, q183, q859, by decide +kernel, by decide +kernel, by decide +kernel⟩
theorem mvX8_at : MV yX8_at cX8_at 2 (Option.some Jvm.ClassFile.FieldType.int) 1 := ⟨q1161, q71, q184, q1162, by decide +kernel, by decide +kernel, by decide +kernel⟩
theorem mvX8_isLetter : MS yX8_isLetter cX8_isLetter 1 (Option.some Jvm.ClassFile.FieldType.boolean) 1 := ⟨q1200, q184, q1201, by decide +kernel, by decide +kernel, by decide +kernel⟩
theorem mvX8_isDigit : MS yX8_isDigit cX8_isDigit 1 (Option.some Jvm.ClassFile.FieldType.boolean) 1 := ⟨q1182, q184, q1183, by decide +kernel, by decide +kernel, by decide +kernel⟩
theorem mvX8_fail : MV yX8_fail cX8_fail 3 (Option.none : Option Jvm.ClassFile.FieldType) 2 := ⟨q1165, q72, q184, q1166, by decide +kernel, by decide +kernel, by decide +kernel⟩
theorem mvX8_great : MS yX8_great cX8_great 1 (Option.some Jvm.ClassFile.FieldType.int) 1 := ⟨q1179, q184, q1180, by decide +kernel, by decide +kernel, by decide +kernel⟩
theorem mvX8_goesOn : MV yX8_goesOn cX8_goesOn 2 (Option.some Jvm.ClassFile.FieldType.boolean) 1 := ⟨q1197, q76, q184, q1198, by decide +kernel, by decide +kernel, by decide +kernel⟩
theorem mvX8_wordOf : MV yX8_wordOf cX8_wordOf 6 (Option.some Jvm.ClassFile.FieldType.int) 2 := ⟨q1209, q78, q184, q1210, by decide +kernel, by decide +kernel, by decide +kernel⟩
theorem mvX8_nameOf : MV yX8_nameOf cX8_nameOf 6 (Option.some Jvm.ClassFile.FieldType.int) 2 := ⟨q1213, q79, q184, q1214, by decide +kernel, by decide +kernel, by decide +kernel⟩
theorem mvX8_digitOf : MS yX8_digitOf cX8_digitOf 2 (Option.some Jvm.ClassFile.FieldType.int) 1 := ⟨q1176, q184, q1177, by decide +kernel, by decide +kernel, by decide +kernel⟩
theorem mvX8_digits : MV yX8_digits cX8_digits 5 (Option.some Jvm.ClassFile.FieldType.long) 1 := ⟨q1173, q74, q184, q1174, by decide +kernel, by decide +kernel, by decide +kernel⟩
theorem mvX8_unit : MV yX8_unit cX8_unit 3 (Option.some Jvm.ClassFile.FieldType.long) 0 := ⟨q1188, q75, q184, q1189, by decide +kernel, by decide +kernel, by decide +kernel⟩
theorem mvX8_skip : MV yX8_skip cX8_skip 4 (Option.none : Option Jvm.ClassFile.FieldType) 0 := ⟨q1157, q70, q184, q1158, by decide +kernel, by decide +kernel, by decide +kernel⟩
theorem mvX8_readSign : MV yX8_readSign cX8_readSign 5 (Option.none : Option Jvm.ClassFile.FieldType) 0 := ⟨q1223, q81, q184, q1224, by decide +kernel, by decide +kernel, by decide +kernel⟩
theorem mvX8_readPlace : MV yX8_readPlace cX8_readPlace 4 (Option.none : Option Jvm.ClassFile.FieldType) 0 := ⟨q1217, q80, q184, q1218, by decide +kernel, by decide +kernel, by decide +kernel⟩
theorem mvX8_readNumber : MV yX8_readNumber cX8_readNumber 7 (Option.none : Option Jvm.ClassFile.FieldType) 1 := ⟨q1169, q73, q184, q1170, by decide +kernel, by decide +kernel, by decide +kernel⟩
theorem mvX8_readName : MV yX8_readName cX8_readName 3 (Option.none : Option Jvm.ClassFile.FieldType) 0 := ⟨q1205, q77, q184, q1206, by decide +kernel, by decide +kernel, by decide +kernel⟩
theorem mvX8_make : MV yX8_make cX8_make 4 (Option.some Jvm.ClassFile.FieldType.int) 3 := ⟨q1145, q67, q184, q1146, by decide +kernel, by decide +kernel, by decide +kernel⟩
theorem mvX8_hang : MV yX8_hang cX8_hang 3 (Option.none : Option Jvm.ClassFile.FieldType) 2 := ⟨q1251, q88, q184, q1252, by decide +kernel, by decide +kernel, by decide +kernel⟩
theorem mvX8_push : MV yX8_push cX8_push 2 (Option.none : Option Jvm.ClassFile.FieldType) 1 := ⟨q1149, q68, q184, q1150, by decide +kernel, by decide +kernel, by decide +kernel⟩
theorem mvX8_push2 : MV yX8_push2 cX8_push2 3 (Option.none : Option Jvm.ClassFile.FieldType) 2 := ⟨q1259, q90, q184, q1260, by decide +kernel, by decide +kernel, by decide +kernel⟩
theorem mvX8_wrong : MV yX8_wrong cX8_wrong 1 (Option.none : Option Jvm.ClassFile.FieldType) 0 := ⟨q1235, q84, q184, q1236, by decide +kernel, by decide +kernel, by decide +kernel⟩
theorem mvX8_step : MV yX8_step cX8_step 2 (Option.none : Option Jvm.ClassFile.FieldType) 0 := ⟨q1153, q69, q184, q1154, by decide +kernel, by decide +kernel, by decide +kernel⟩
theorem mvX8_isConstant : MV yX8_isConstant cX8_isConstant 1 (Option.some Jvm.ClassFile.FieldType.boolean) 0 := ⟨q1355, q114, q184, q1356, by decide +kernel, by decide +kernel, by decide +kernel⟩
theorem mvX8_down : MV yX8_down cX8_down 5 (Option.none : Option Jvm.ClassFile.FieldType) 3 := ⟨q1247, q87, q184, q1248, by decide +kernel, by decide +kernel, by decide +kernel⟩
theorem mvX8_push4 : MV yX8_push4 cX8_push4 5 (Option.none : Option Jvm.ClassFile.FieldType) 4 := ⟨q1255, q89, q184, q1256, by decide +kernel, by decide +kernel, by decide +kernel⟩
theorem mvX8_pass : MV yX8_pass cX8_pass 2 (Option.none : Option Jvm.ClassFile.FieldType) 1 := ⟨q1231, q83, q184, q1232, by decide +kernel, by decide +kernel, by decide +kernel⟩
theorem mvX8_leaf : MV yX8_leaf cX8_leaf 4 (Option.none : Option Jvm.ClassFile.FieldType) 3 := ⟨q1279, q95, q184, q1280, by decide +kernel, by decide +kernel, by decide +kernel⟩
theorem mvX8_simple : MV yX8_simple cX8_simple 1 (Option.none : Option Jvm.ClassFile.FieldType) 0 := ⟨q1275, q94, q184, q1276, by decide +kernel, by decide +kernel, by decide +kernel⟩
theorem mvX8_pushExpression : MV yX8_pushExpression cX8_pushExpression 1 (Option.none : Option Jvm.ClassFile.FieldType) 0 := ⟨q1331, q108, q184, q1332, by decide +kernel, by decide +kernel, by decide +kernel⟩
theorem mvX8_opens : MV yX8_opens cX8_opens 1 (Option.some Jvm.ClassFile.FieldType.boolean) 0 := ⟨q1323, q106, q184, q1324, by decide +kernel, by decide +kernel, by decide +kernel⟩
theorem mvX8_compound : MV yX8_compound cX8_compound 1 (Option.none : Option Jvm.ClassFile.FieldType) 0 := ⟨q1327, q107, q184, q1328, by decide +kernel, by decide +kernel, by decide +kernel⟩
theorem mvX8_keepName : MV yX8_keepName cX8_keepName 1 (Option.none : Option Jvm.ClassFile.FieldType) 0 := ⟨q1319, q105, q184, q1320, by decide +kernel, by decide +kernel, by decide +kernel⟩
theorem mvX8_up : MV yX8_up cX8_up 1 (Option.none : Option Jvm.ClassFile.FieldType) 0 := ⟨q1263, q91, q184, q1264, by decide +kernel, by decide +kernel, by decide +kernel⟩
theorem mvX8_bodyBehind : MV yX8_bodyBehind cX8_bodyBehind 3 (Option.none : Option Jvm.ClassFile.FieldType) 1 := ⟨q1347, q112, q184, q1348, by decide +kernel, by decide +kernel, by decide +kernel⟩
theorem mvX8_elseBody : MV yX8_elseBody cX8_elseBody 1 (Option.none : Option Jvm.ClassFile.FieldType) 0 := ⟨q1343, q111, q184, q1344, by decide +kernel, by decide +kernel, by decide +kernel⟩
theorem mvX8_waitFor : MV yX8_waitFor cX8_waitFor 3 (Option.none : Option Jvm.ClassFile.FieldType) 2 := ⟨q1383, q121, q184, q1384, by decide +kernel, by decide +kernel, by decide +kernel⟩
theorem mvX8_takeOperand : MV yX8_takeOperand cX8_takeOperand 1 (Option.some Jvm.ClassFile.FieldType.int) 0 := ⟨q1403, q126, q184, q1404, by decide +kernel, by decide +kernel, by decide +kernel⟩
theorem mvX8_putOperand : MV yX8_putOperand cX8_putOperand 2 (Option.none : Option Jvm.ClassFile.FieldType) 1 := ⟨q1395, q124, q184, q1396, by decide +kernel, by decide +kernel, by decide +kernel⟩
theorem mvX8_settle : MV yX8_settle cX8_settle 4 (Option.none : Option Jvm.ClassFile.FieldType) 0 := ⟨q1399, q125, q184, q1400, by decide +kernel, by decide +kernel, by decide +kernel⟩
theorem mvX8_operandCame : MV yX8_operandCame cX8_operandCame 2 (Option.none : Option Jvm.ClassFile.FieldType) 1 := ⟨q1391, q123, q184, q1392, by decide +kernel, by decide +kernel, by decide +kernel⟩
theorem mvX8_start : MV yX8_start cX8_start 2 (Option.none : Option Jvm.ClassFile.FieldType) 1 := ⟨q1426, q131, q184, q1427, by decide +kernel, by decide +kernel, by decide +kernel⟩
theorem mvX8_argument : MV yX8_argument cX8_argument 1 (Option.none : Option Jvm.ClassFile.FieldType) 0 := ⟨q1434, q133, q184, q1435, by decide +kernel, by decide +kernel, by decide +kernel⟩
theorem mvX8_finish : MV yX8_finish cX8_finish 1 (Option.none : Option Jvm.ClassFile.FieldType) 0 := ⟨q1438, q134, q184, q1439, by decide +kernel, by decide +kernel, by decide +kernel⟩
theorem mvX8_signAt : MV yX8_signAt cX8_signAt 1 (Option.some Jvm.ClassFile.FieldType.int) 0 := ⟨q1411, q128, q184, q1412, by decide +kernel, by decide +kernel, by decide +kernel⟩
theorem mvX8_closeness : MS yX8_closeness cX8_closeness 1 (Option.some Jvm.ClassFile.FieldType.int) 1 := ⟨q1414, q184, q1415, by decide +kernel, by decide +kernel, by decide +kernel⟩
theorem mvX8_isCell : MV yX8_isCell cX8_isCell 1 (Option.some Jvm.ClassFile.FieldType.boolean) 0 := ⟨q1462, q140, q184, q1463, by decide +kernel, by decide +kernel, by decide +kernel⟩
theorem mvX8_blocks : MV yX8_blocks cX8_blocks 2 (Option.none : Option Jvm.ClassFile.FieldType) 0 := ⟨q1243, q86, q184, q1244, by decide +kernel, by decide +kernel, by decide +kernel⟩
theorem mvX8_body : MV yX8_body cX8_body 1 (Option.none : Option Jvm.ClassFile.FieldType) 0 := ⟨q1267, q92, q184, q1268, by decide +kernel, by decide +kernel, by decide +kernel⟩
theorem mvX8_sections : MV yX8_sections cX8_sections 1 (Option.none : Option Jvm.ClassFile.FieldType) 0 := ⟨q1271, q93, q184, q1272, by decide +kernel, by decide +kernel, by decide +kernel⟩
theorem mvX8_title : MV yX8_title cX8_title 1 (Option.none : Option Jvm.ClassFile.FieldType) 0 := ⟨q1283, q96, q184, q1284, by decide +kernel, by decide +kernel, by decide +kernel⟩
theorem mvX8_declarations : MV yX8_declarations cX8_declarations 1 (Option.none : Option Jvm.ClassFile.FieldType) 0 := ⟨q1287, q97, q184, q1288, by decide +kernel, by decide +kernel, by decide +kernel⟩
theorem mvX8_aName : MV yX8_aName cX8_aName 1 (Option.none : Option Jvm.ClassFile.FieldType) 0 := ⟨q1291, q98, q184, q1292, by decide +kernel, by decide +kernel, by decide +kernel⟩
theorem mvX8_perhaps : MV yX8_perhaps cX8_perhaps 4 (Option.none : Option Jvm.ClassFile.FieldType) 3 := ⟨q1295, q99, q184, q1296, by decide +kernel, by decide +kernel, by decide +kernel⟩
theorem mvX8_type : MV yX8_type cX8_type 1 (Option.none : Option Jvm.ClassFile.FieldType) 0 := ⟨q1299, q100, q184, q1300, by decide +kernel, by decide +kernel, by decide +kernel⟩
theorem mvX8_constant : MV yX8_constant cX8_constant 1 (Option.none : Option Jvm.ClassFile.FieldType) 0 := ⟨q1303, q101, q184, q1304, by decide +kernel, by decide +kernel, by decide +kernel⟩
theorem mvX8_lessNumber : MV yX8_lessNumber cX8_lessNumber 1 (Option.none : Option Jvm.ClassFile.FieldType) 0 := ⟨q1307, q102, q184, q1308, by decide +kernel, by decide +kernel, by decide +kernel⟩
theorem mvX8_statements : MV yX8_statements cX8_statements 1 (Option.none : Option Jvm.ClassFile.FieldType) 0 := ⟨q1315, q104, q184, q1316, by decide +kernel, by decide +kernel, by decide +kernel⟩
theorem mvX8_behindName : MV yX8_behindName cX8_behindName 1 (Option.none : Option Jvm.ClassFile.FieldType) 0 := ⟨q1335, q109, q184, q1336, by decide +kernel, by decide +kernel, by decide +kernel⟩
theorem mvX8_ifRest : MV yX8_ifRest cX8_ifRest 1 (Option.none : Option Jvm.ClassFile.FieldType) 0 := ⟨q1339, q110, q184, q1340, by decide +kernel, by decide +kernel, by decide +kernel⟩
theorem mvX8_choices : MV yX8_choices cX8_choices 1 (Option.none : Option Jvm.ClassFile.FieldType) 0 := ⟨q1351, q113, q184, q1352, by decide +kernel, by decide +kernel, by decide +kernel⟩
theorem mvX8_range : MV yX8_range cX8_range 1 (Option.none : Option Jvm.ClassFile.FieldType) 0 := ⟨q1359, q115, q184, q1360, by decide +kernel, by decide +kernel, by decide +kernel⟩
theorem mvX8_assign : MV yX8_assign cX8_assign 1 (Option.none : Option Jvm.ClassFile.FieldType) 0 := ⟨q1363, q116, q184, q1364, by decide +kernel, by decide +kernel, by decide +kernel⟩
theorem mvX8_indexEnd : MV yX8_indexEnd cX8_indexEnd 1 (Option.none : Option Jvm.ClassFile.FieldType) 0 := ⟨q1367, q117, q184, q1368, by decide +kernel, by decide +kernel, by decide +kernel⟩
theorem mvX8_parameter : MV yX8_parameter cX8_parameter 1 (Option.none : Option Jvm.ClassFile.FieldType) 0 := ⟨q1371, q118, q184, q1372, by decide +kernel, by decide +kernel, by decide +kernel⟩
theorem mvX8_expression : MV yX8_expression cX8_expression 1 (Option.none : Option Jvm.ClassFile.FieldType) 0 := ⟨q1379, q120, q184, q1380, by decide +kernel, by decide +kernel, by decide +kernel⟩
theorem mvX8_anOperand : MV yX8_anOperand cX8_anOperand 1 (Option.none : Option Jvm.ClassFile.FieldType) 0 := ⟨q1387, q122, q184, q1388, by decide +kernel, by decide +kernel, by decide +kernel⟩
theorem mvX8_signRest : MV yX8_signRest cX8_signRest 2 (Option.none : Option Jvm.ClassFile.FieldType) 0 := ⟨q1407, q127, q184, q1408, by decide +kernel, by decide +kernel, by decide +kernel⟩
theorem mvX8_groupEnd : MV yX8_groupEnd cX8_groupEnd 1 (Option.none : Option Jvm.ClassFile.FieldType) 0 := ⟨q1418, q129, q184, q1419, by decide +kernel, by decide +kernel, by decide +kernel⟩
theorem mvX8_behindOperand : MV yX8_behindOperand cX8_behindOperand 1 (Option.none : Option Jvm.ClassFile.FieldType) 0 := ⟨q1422, q130, q184, q1423, by decide +kernel, by decide +kernel, by decide +kernel⟩
theorem mvX8_elementEnd : MV yX8_elementEnd cX8_elementEnd 1 (Option.none : Option Jvm.ClassFile.FieldType) 0 := ⟨q1430, q132, q184, q1431, by decide +kernel, by decide +kernel, by decide +kernel⟩
theorem mvX8_output : MV yX8_output cX8_output 1 (Option.none : Option Jvm.ClassFile.FieldType) 0 := ⟨q1442, q135, q184, q1443, by decide +kernel, by decide +kernel, by decide +kernel⟩
theorem mvX8_isOperand : MV yX8_isOperand cX8_isOperand 1 (Option.some Jvm.ClassFile.FieldType.boolean) 0 := ⟨q1446, q136, q184, q1447, by decide +kernel, by decide +kernel, by decide +kernel⟩
theorem mvX8_pushArgument : MV yX8_pushArgument cX8_pushArgument 1 (Option.none : Option Jvm.ClassFile.FieldType) 0 := ⟨q1450, q137, q184, q1451, by decide +kernel, by decide +kernel, by decide +kernel⟩
theorem mvX8_resultEnd : MV yX8_resultEnd cX8_resultEnd 1 (Option.none : Option Jvm.ClassFile.FieldType) 0 := ⟨q1454, q138, q184, q1455, by decide +kernel, by decide +kernel, by decide +kernel⟩
theorem mvX8_cell : MV yX8_cell cX8_cell 2 (Option.none : Option Jvm.ClassFile.FieldType) 0 := ⟨q1466, q141, q184, q1467, by decide +kernel, by decide +kernel, by decide +kernel⟩
theorem mvX8_moreCells : MV yX8_moreCells cX8_moreCells 1 (Option.none : Option Jvm.ClassFile.FieldType) 0 := ⟨q1470, q142, q184, q1471, by decide +kernel, by decide +kernel, by decide +kernel⟩
theorem mvX8_contact : MV yX8_contact cX8_contact 1 (Option.none : Option Jvm.ClassFile.FieldType) 0 := ⟨q1474, q143, q184, q1475, by decide +kernel, by decide +kernel, by decide +kernel⟩
theorem mvX8_behindContact : MV yX8_behindContact cX8_behindContact 1 (Option.none : Option Jvm.ClassFile.FieldType) 0 := ⟨q1478, q144, q184, q1479, by decide +kernel, by decide +kernel, by decide +kernel⟩
theorem mvX8_coil : MV yX8_coil cX8_coil 2 (Option.none : Option Jvm.ClassFile.FieldType) 0 := ⟨q1482, q145, q184, q1483, by decide +kernel, by decide +kernel, by decide +kernel⟩
theorem mvX8_actRung : MV yX8_actRung cX8_actRung 2 (Option.none : Option Jvm.ClassFile.FieldType) 1 := ⟨q1458, q139, q184, q1459, by decide +kernel, by decide +kernel, by decide +kernel⟩
theorem mvX8_actOperand : MV yX8_actOperand cX8_actOperand 2 (Option.none : Option Jvm.ClassFile.FieldType) 1 := ⟨q1375, q119, q184, q1376, by decide +kernel, by decide +kernel, by decide +kernel⟩
theorem mvX8_actStatement : MV yX8_actStatement cX8_actStatement 2 (Option.none : Option Jvm.ClassFile.FieldType) 1 := ⟨q1311, q103, q184, q1312, by decide +kernel, by decide +kernel, by decide +kernel⟩
theorem mvX8_actBlock : MV yX8_actBlock cX8_actBlock 2 (Option.none : Option Jvm.ClassFile.FieldType) 1 := ⟨q1239, q85, q184, q1240, by decide +kernel, by decide +kernel, by decide +kernel⟩
theorem mvX8_following : MV yX8_following cX8_following 3 (Option.some Jvm.ClassFile.FieldType.int) 1 := ⟨q1490, q147, q184, q1491, by decide +kernel, by decide +kernel, by decide +kernel⟩
theorem mvX8_act : MV yX8_act cX8_act 2 (Option.none : Option Jvm.ClassFile.FieldType) 1 := ⟨q1227, q82, q184, q1228, by decide +kernel, by decide +kernel, by decide +kernel⟩
theorem mvX8_number : MV yX8_number cX8_number 2 (Option.none : Option Jvm.ClassFile.FieldType) 0 := ⟨q1486, q146, q184, q1487, by decide +kernel, by decide +kernel, by decide +kernel⟩
theorem mvX8_children : MV yX8_children cX8_children 4 (Option.some Jvm.ClassFile.FieldType.int) 1 := ⟨q1502, q148, q184, q1503, by decide +kernel, by decide +kernel, by decide +kernel⟩
theorem mvX8_isOfName : MS yX8_isOfName cX8_isOfName 1 (Option.some Jvm.ClassFile.FieldType.boolean) 1 := ⟨q1529, q184, q1530, by decide +kernel, by decide +kernel, by decide +kernel⟩
theorem mvX8_put : MV yX8_put cX8_put 2 (Option.none : Option Jvm.ClassFile.FieldType) 1 := ⟨q1533, q153, q184, q1534, by decide +kernel, by decide +kernel, by decide +kernel⟩
theorem mvX8_part : MV yX8_part cX8_part 2 (Option.none : Option Jvm.ClassFile.FieldType) 1 := ⟨q1526, q152, q184, q1527, by decide +kernel, by decide +kernel, by decide +kernel⟩
theorem mvX8_item : MV yX8_item cX8_item 3 (Option.none : Option Jvm.ClassFile.FieldType) 2 := ⟨q1514, q149, q184, q1515, by decide +kernel, by decide +kernel, by decide +kernel⟩
theorem mvX8_second : MV yX8_second cX8_second 2 (Option.some Jvm.ClassFile.FieldType.int) 1 := ⟨q1557, q159, q184, q1558, by decide +kernel, by decide +kernel, by decide +kernel⟩
theorem mvX8_itemAll : MV yX8_itemAll cX8_itemAll 5 (Option.none : Option Jvm.ClassFile.FieldType) 4 := ⟨q1561, q160, q184, q1562, by decide +kernel, by decide +kernel, by decide +kernel⟩
theorem mvX8_itemFor : MV yX8_itemFor cX8_itemFor 5 (Option.none : Option Jvm.ClassFile.FieldType) 1 := ⟨q1577, q164, q184, q1578, by decide +kernel, by decide +kernel, by decide +kernel⟩
theorem mvX8_putNumber : MV yX8_putNumber cX8_putNumber 6 (Option.none : Option Jvm.ClassFile.FieldType) 1 := ⟨q1589, q167, q184, q1590, by decide +kernel, by decide +kernel, by decide +kernel⟩
theorem mvX8_putToken : MV yX8_putToken cX8_putToken 3 (Option.none : Option Jvm.ClassFile.FieldType) 1 := ⟨q1522, q151, q184, q1523, by decide +kernel, by decide +kernel, by decide +kernel⟩
theorem mvX8_itemOperand : MV yX8_itemOperand cX8_itemOperand 8 (Option.none : Option Jvm.ClassFile.FieldType) 3 := ⟨q1595, q168, q184, q1596, by decide +kernel, by decide +kernel, by decide +kernel⟩
theorem mvX8_tokenOf : MS yX8_tokenOf cX8_tokenOf 1 (Option.some Jvm.ClassFile.FieldType.int) 1 := ⟨q1598, q184, q1599, by decide +kernel, by decide +kernel, by decide +kernel⟩
theorem mvX8_itemBlock : MV yX8_itemBlock cX8_itemBlock 4 (Option.none : Option Jvm.ClassFile.FieldType) 3 := ⟨q1553, q158, q184, q1554, by decide +kernel, by decide +kernel, by decide +kernel⟩
theorem mvX8_putName : MV yX8_putName cX8_putName 3 (Option.none : Option Jvm.ClassFile.FieldType) 1 := ⟨q1537, q154, q184, q1538, by decide +kernel, by decide +kernel, by decide +kernel⟩
theorem mvX8_putPlace : MV yX8_putPlace cX8_putPlace 3 (Option.none : Option Jvm.ClassFile.FieldType) 1 := ⟨q1565, q161, q184, q1566, by decide +kernel, by decide +kernel, by decide +kernel⟩
theorem mvX8_itemArray : MV yX8_itemArray cX8_itemArray 2 (Option.none : Option Jvm.ClassFile.FieldType) 1 := ⟨q1569, q162, q184, q1570, by decide +kernel, by decide +kernel, by decide +kernel⟩
theorem mvX8_openOperand : MV yX8_openOperand cX8_openOperand 2 (Option.none : Option Jvm.ClassFile.FieldType) 1 := ⟨q1585, q166, q184, q1586, by decide +kernel, by decide +kernel, by decide +kernel⟩
theorem mvX8_openRung : MV yX8_openRung cX8_openRung 3 (Option.none : Option Jvm.ClassFile.FieldType) 1 := ⟨q1581, q165, q184, q1582, by decide +kernel, by decide +kernel, by decide +kernel⟩
theorem mvX8_openStatement : MV yX8_openStatement cX8_openStatement 2 (Option.none : Option Jvm.ClassFile.FieldType) 1 := ⟨q1573, q163, q184, q1574, by decide +kernel, by decide +kernel, by decide +kernel⟩
theorem mvX8_openBlock : MV yX8_openBlock cX8_openBlock 2 (Option.none : Option Jvm.ClassFile.FieldType) 1 := ⟨q1549, q157, q184, q1550, by decide +kernel, by decide +kernel, by decide +kernel⟩
theorem mvX8_openParts : MV yX8_openParts cX8_openParts 3 (Option.none : Option Jvm.ClassFile.FieldType) 1 := ⟨q1541, q155, q184, q1542, by decide +kernel, by decide +kernel, by decide +kernel⟩
theorem mvX8_openRow : MV yX8_openRow cX8_openRow 4 (Option.none : Option Jvm.ClassFile.FieldType) 2 := ⟨q1610, q171, q184, q1611, by decide +kernel, by decide +kernel, by decide +kernel⟩
theorem mvX8_openCase : MV yX8_openCase cX8_openCase 2 (Option.none : Option Jvm.ClassFile.FieldType) 1 := ⟨q1606, q170, q184, q1607, by decide +kernel, by decide +kernel, by decide +kernel⟩
theorem mvX8_openIf : MV yX8_openIf cX8_openIf 3 (Option.none : Option Jvm.ClassFile.FieldType) 1 := ⟨q1602, q169, q184, q1603, by decide +kernel, by decide +kernel, by decide +kernel⟩
theorem mvX8_openNode : MV yX8_openNode cX8_openNode 2 (Option.none : Option Jvm.ClassFile.FieldType) 1 := ⟨q1545, q156, q184, q1546, by decide +kernel, by decide +kernel, by decide +kernel⟩
theorem mvX8_openItem : MV yX8_openItem cX8_openItem 3 (Option.none : Option Jvm.ClassFile.FieldType) 2 := ⟨q1518, q150, q184, q1519, by decide +kernel, by decide +kernel, by decide +kernel⟩
theorem layX0a : ∀ w ∈ u_ws RX0 TX0 2, w ∈ ALL := by
  show ∀ w ∈ ([Cond.laysFinal "ControlText$Bytes" "ControlText$Bytes" "bytes" "[I", Cond.lays "ControlText$Bytes" "ControlText$Bytes" "size" "I"] : List Cond), w ∈ ALL
  exact List.forall_mem_cons.mpr ⟨q207, List.forall_mem_cons.mpr ⟨q209, fun _ h => absurd h List.not_mem_nil⟩⟩
theorem layX0 {c0 : Cond} : ∀ w ∈ u_ws RX0 TX0 2, w ∈ c0 :: ALL := fun w h => inA (layX0a w h)
theorem layX1a : ∀ w ∈ u_ws RX1 TX1 6, w ∈ ALL := by
  show ∀ w ∈ ([Cond.laysFinal "ControlText$Names" "ControlText$Names" "letters" "[I", Cond.laysFinal "ControlText$Names" "ControlText$Names" "starts" "[I", Cond.laysFinal "ControlText$Names" "ControlText$Names" "slotOf" "[I", Cond.laysFinal "ControlText$Names" "ControlText$Names" "slots" "[I", Cond.lays "ControlText$Names" "ControlText$Names" "size" "I", Cond.lays "ControlText$Names" "ControlText$Names" "used" "I"] : List Cond), w ∈ ALL
  exact List.forall_mem_cons.mpr ⟨q311, List.forall_mem_cons.mpr ⟨q313, List.forall_mem_cons.mpr ⟨q315, List.forall_mem_cons.mpr ⟨q317, List.forall_mem_cons.mpr ⟨q319, List.forall_mem_cons.mpr ⟨q321, fun _ h => absurd h List.not_mem_nil⟩⟩⟩⟩⟩⟩
theorem layX1 {c0 : Cond} : ∀ w ∈ u_ws RX1 TX1 6, w ∈ c0 :: ALL := fun w h => inA (layX1a w h)
theorem layX2a : ∀ w ∈ u_ws RX2 TX2 7, w ∈ ALL := by
  show ∀ w ∈ ([Cond.laysFinal "ControlText$Tokens" "ControlText$Tokens" "text" "LControlText$Bytes;", Cond.laysFinal "ControlText$Tokens" "ControlText$Tokens" "names" "LControlText$Names;", Cond.laysFinal "ControlText$Tokens" "ControlText$Tokens" "kinds" "[I", Cond.laysFinal "ControlText$Tokens" "ControlText$Tokens" "places" "[I", Cond.laysFinal "ControlText$Tokens" "ControlText$Tokens" "values" "[I", Cond.lays "ControlText$Tokens" "ControlText$Tokens" "size" "I", Cond.lays "ControlText$Tokens" "ControlText$Tokens" "at" "I"] : List Cond), w ∈ ALL
  exact List.forall_mem_cons.mpr ⟨q342, List.forall_mem_cons.mpr ⟨q344, List.forall_mem_cons.mpr ⟨q346, List.forall_mem_cons.mpr ⟨q348, List.forall_mem_cons.mpr ⟨q350, List.forall_mem_cons.mpr ⟨q352, List.forall_mem_cons.mpr ⟨q354, fun _ h => absurd h List.not_mem_nil⟩⟩⟩⟩⟩⟩⟩
theorem layX2 {c0 : Cond} : ∀ w ∈ u_ws RX2 TX2 7, w ∈ c0 :: ALL := fun w h => inA (layX2a w h)
theorem layX3a : ∀ w ∈ u_ws RX3 TX3 8, w ∈ ALL := by
  show ∀ w ∈ ([Cond.laysFinal "ControlText$Tree" "ControlText$Tree" "kinds" "[I", Cond.laysFinal "ControlText$Tree" "ControlText$Tree" "places" "[I", Cond.laysFinal "ControlText$Tree" "ControlText$Tree" "values" "[I", Cond.laysFinal "ControlText$Tree" "ControlText$Tree" "children" "[I", Cond.laysFinal "ControlText$Tree" "ControlText$Tree" "parents" "[I", Cond.laysFinal "ControlText$Tree" "ControlText$Tree" "ranks" "[I", Cond.laysFinal "ControlText$Tree" "ControlText$Tree" "met" "[I", Cond.lays "ControlText$Tree" "ControlText$Tree" "size" "I"] : List Cond), w ∈ ALL
  exact List.forall_mem_cons.mpr ⟨q374, List.forall_mem_cons.mpr ⟨q376, List.forall_mem_cons.mpr ⟨q378, List.forall_mem_cons.mpr ⟨q380, List.forall_mem_cons.mpr ⟨q382, List.forall_mem_cons.mpr ⟨q384, List.forall_mem_cons.mpr ⟨q386, List.forall_mem_cons.mpr ⟨q388, fun _ h => absurd h List.not_mem_nil⟩⟩⟩⟩⟩⟩⟩⟩
theorem layX3 {c0 : Cond} : ∀ w ∈ u_ws RX3 TX3 8, w ∈ c0 :: ALL := fun w h => inA (layX3a w h)
theorem layX4a : ∀ w ∈ u_ws RX4 TX4 12, w ∈ ALL := by
  show ∀ w ∈ ([Cond.laysFinal "ControlText$Parser" "ControlText$Parser" "tokens" "LControlText$Tokens;", Cond.laysFinal "ControlText$Parser" "ControlText$Parser" "tree" "LControlText$Tree;", Cond.lays "ControlText$Parser" "ControlText$Parser" "at" "I", Cond.lays "ControlText$Parser" "ControlText$Parser" "kind" "I", Cond.lays "ControlText$Parser" "ControlText$Parser" "place" "I", Cond.lays "ControlText$Parser" "ControlText$Parser" "value" "I", Cond.lays "ControlText$Parser" "ControlText$Parser" "placeBefore" "I", Cond.lays "ControlText$Parser" "ControlText$Parser" "signs" "I", Cond.lays "ControlText$Parser" "ControlText$Parser" "open" "I", Cond.lays "ControlText$Parser" "ControlText$Parser" "tooDeep" "Z", Cond.lays "ControlText$Parser" "ControlText$Parser" "fault" "I", Cond.lays "ControlText$Parser" "ControlText$Parser" "faultPlace" "I"] : List Cond), w ∈ ALL
  exact List.forall_mem_cons.mpr ⟨q411, List.forall_mem_cons.mpr ⟨q413, List.forall_mem_cons.mpr ⟨q415, List.forall_mem_cons.mpr ⟨q417, List.forall_mem_cons.mpr ⟨q419, List.forall_mem_cons.mpr ⟨q421, List.forall_mem_cons.mpr ⟨q423, List.forall_mem_cons.mpr ⟨q425, List.forall_mem_cons.mpr ⟨q427, List.forall_mem_cons.mpr ⟨q429, List.forall_mem_cons.mpr ⟨q431, List.forall_mem_cons.mpr ⟨q433, fun _ h => absurd h List.not_mem_nil⟩⟩⟩⟩⟩⟩⟩⟩⟩⟩⟩⟩
theorem layX4 {c0 : Cond} : ∀ w ∈ u_ws RX4 TX4 12, w ∈ c0 :: ALL := fun w h => inA (layX4a w h)
theorem layX5a : ∀ w ∈ u_ws RX5 TX5 3, w ∈ ALL := by
  show ∀ w ∈ ([Cond.laysFinal "ControlText$Writer" "ControlText$Writer" "tree" "LControlText$Tree;", Cond.laysFinal "ControlText$Writer" "ControlText$Writer" "names" "LControlText$Names;", Cond.laysFinal "ControlText$Writer" "ControlText$Writer" "out" "LControlText$Bytes;"] : List Cond), w ∈ ALL
  exact List.forall_mem_cons.mpr ⟨q445, List.forall_mem_cons.mpr ⟨q447, List.forall_mem_cons.mpr ⟨q449, fun _ h => absurd h List.not_mem_nil⟩⟩⟩
theorem layX5 {c0 : Cond} : ∀ w ∈ u_ws RX5 TX5 3, w ∈ c0 :: ALL := fun w h => inA (layX5a w h)
theorem layX6a : ∀ w ∈ u_ws RX6 TX6 7, w ∈ ALL := by
  show ∀ w ∈ ([Cond.laysFinal "ControlText" "ControlText" "text" "LControlText$Bytes;", Cond.laysFinal "ControlText" "ControlText" "written" "LControlText$Bytes;", Cond.laysFinal "ControlText" "ControlText" "names" "LControlText$Names;", Cond.laysFinal "ControlText" "ControlText" "tokens" "LControlText$Tokens;", Cond.laysFinal "ControlText" "ControlText" "tree" "LControlText$Tree;", Cond.laysFinal "ControlText" "ControlText" "parser" "LControlText$Parser;", Cond.laysFinal "ControlText" "ControlText" "writer" "LControlText$Writer;"] : List Cond), w ∈ ALL
  exact List.forall_mem_cons.mpr ⟨q459, List.forall_mem_cons.mpr ⟨q461, List.forall_mem_cons.mpr ⟨q463, List.forall_mem_cons.mpr ⟨q465, List.forall_mem_cons.mpr ⟨q467, List.forall_mem_cons.mpr ⟨q469, List.forall_mem_cons.mpr ⟨q471, fun _ h => absurd h List.not_mem_nil⟩⟩⟩⟩⟩⟩⟩
theorem layX6 {c0 : Cond} : ∀ w ∈ u_ws RX6 TX6 7, w ∈ c0 :: ALL := fun w h => inA (layX6a w h)
theorem layX8a : ∀ w ∈ u_ws RX8 TX8 48, w ∈ ALL := by
  show ∀ w ∈ ([Cond.laysFinal "ControlTextModel" "ControlTextModel" "letters" "[I", Cond.laysFinal "ControlTextModel" "ControlTextModel" "wordAt" "[I", Cond.laysFinal "ControlTextModel" "ControlTextModel" "signs" "[I", Cond.laysFinal "ControlTextModel" "ControlTextModel" "places" "[I", Cond.lays "ControlTextModel" "ControlTextModel" "size" "I", Cond.laysFinal "ControlTextModel" "ControlTextModel" "text" "[I", Cond.lays "ControlTextModel" "ControlTextModel" "begin" "I", Cond.lays "ControlTextModel" "ControlTextModel" "token" "I", Cond.lays "ControlTextModel" "ControlTextModel" "worth" "I", Cond.lays "ControlTextModel" "ControlTextModel" "next" "I", Cond.lays "ControlTextModel" "ControlTextModel" "lastPlace" "I", Cond.lays "ControlTextModel" "ControlTextModel" "fault" "I", Cond.lays "ControlTextModel" "ControlTextModel" "faultPlace" "I", Cond.lays "ControlTextModel" "ControlTextModel" "names" "I", Cond.laysFinal "ControlTextModel" "ControlTextModel" "nameAt" "[I", Cond.laysFinal "ControlTextModel" "ControlTextModel" "nameBytes" "[I", Cond.lays "ControlTextModel" "ControlTextModel" "nodes" "I", Cond.laysFinal "ControlTextModel" "ControlTextModel" "kinds" "[I", Cond.laysFinal "ControlTextModel" "ControlTextModel" "where" "[I", Cond.laysFinal "ControlTextModel" "ControlTextModel" "values" "[I", Cond.laysFinal "ControlTextModel" "ControlTextModel" "parents" "[I", Cond.laysFinal "ControlTextModel" "ControlTextModel" "firsts" "[I", Cond.laysFinal "ControlTextModel" "ControlTextModel" "lasts" "[I", Cond.laysFinal "ControlTextModel" "ControlTextModel" "siblings" "[I", Cond.lays "ControlTextModel" "ControlTextModel" "current" "I", Cond.lays "ControlTextModel" "ControlTextModel" "due" "I", Cond.laysFinal "ControlTextModel" "ControlTextModel" "dues" "[I", Cond.lays "ControlTextModel" "ControlTextModel" "open" "I", Cond.lays "ControlTextModel" "ControlTextModel" "signsOpen" "I", Cond.lays "ControlTextModel" "ControlTextModel" "inner" "I", Cond.lays "ControlTextModel" "ControlTextModel" "namePlace" "I", Cond.lays "ControlTextModel" "ControlTextModel" "nameNumber" "I", Cond.lays "ControlTextModel" "ControlTextModel" "minusPlace" "I", Cond.lays "ControlTextModel" "ControlTextModel" "operands" "I", Cond.laysFinal "ControlTextModel" "ControlTextModel" "operand" "[I", Cond.lays "ControlTextModel" "ControlTextModel" "waiting" "I", Cond.laysFinal "ControlTextModel" "ControlTextModel" "waitingSign" "[I", Cond.laysFinal "ControlTextModel" "ControlTextModel" "waitingPlace" "[I", Cond.lays "ControlTextModel" "ControlTextModel" "beginnings" "I", Cond.laysFinal "ControlTextModel" "ControlTextModel" "beginning" "[I", Cond.lays "ControlTextModel" "ControlTextModel" "count" "I", Cond.laysFinal "ControlTextModel" "ControlTextModel" "byNumber" "[I", Cond.laysFinal "ControlTextModel" "ControlTextModel" "numberOf" "[I", Cond.lays "ControlTextModel" "ControlTextModel" "writtenSize" "I", Cond.laysFinal "ControlTextModel" "ControlTextModel" "written" "[I", Cond.lays "ControlTextModel" "ControlTextModel" "items" "I", Cond.laysFinal "ControlTextModel" "ControlTextModel" "itemKind" "[I", Cond.laysFinal "ControlTextModel" "ControlTextModel" "itemOf" "[I"] : List Cond), w ∈ ALL
  exact List.forall_mem_cons.mpr ⟨q1026, List.forall_mem_cons.mpr ⟨q1028, List.forall_mem_cons.mpr ⟨q1030, List.forall_mem_cons.mpr ⟨q1032, List.forall_mem_cons.mpr ⟨q1034, List.forall_mem_cons.mpr ⟨q1036, List.forall_mem_cons.mpr ⟨q1038, List.forall_mem_cons.mpr ⟨q1040, List.forall_mem_cons.mpr ⟨q1042, List.forall_mem_cons.mpr ⟨q1044, List.forall_mem_cons.mpr ⟨q1046, List.forall_mem_cons.mpr ⟨q1048, List.forall_mem_cons.mpr ⟨q1050, List.forall_mem_cons.mpr ⟨q1052, List.forall_mem_cons.mpr ⟨q1054, List.forall_mem_cons.mpr ⟨q1056, List.forall_mem_cons.mpr ⟨q1058, List.forall_mem_cons.mpr ⟨q1060, List.forall_mem_cons.mpr ⟨q1062, List.forall_mem_cons.mpr ⟨q1064, List.forall_mem_cons.mpr ⟨q1066, List.forall_mem_cons.mpr ⟨q1068, List.forall_mem_cons.mpr ⟨q1070, List.forall_mem_cons.mpr ⟨q1072, List.forall_mem_cons.mpr ⟨q1074, List.forall_mem_cons.mpr ⟨q1076, List.forall_mem_cons.mpr ⟨q1078, List.forall_mem_cons.mpr ⟨q1080, List.forall_mem_cons.mpr ⟨q1082, List.forall_mem_cons.mpr ⟨q1084, List.forall_mem_cons.mpr ⟨q1086, List.forall_mem_cons.mpr ⟨q1088, List.forall_mem_cons.mpr ⟨q1090, List.forall_mem_cons.mpr ⟨q1092, List.forall_mem_cons.mpr ⟨q1094, List.forall_mem_cons.mpr ⟨q1096, List.forall_mem_cons.mpr ⟨q1098, List.forall_mem_cons.mpr ⟨q1100, List.forall_mem_cons.mpr ⟨q1102, List.forall_mem_cons.mpr ⟨q1104, List.forall_mem_cons.mpr ⟨q1106, List.forall_mem_cons.mpr ⟨q1108, List.forall_mem_cons.mpr ⟨q1110, List.forall_mem_cons.mpr ⟨q1112, List.forall_mem_cons.mpr ⟨q1114, List.forall_mem_cons.mpr ⟨q1116, List.forall_mem_cons.mpr ⟨q1118, List.forall_mem_cons.mpr ⟨q1120, fun _ h => absurd h List.not_mem_nil⟩⟩⟩⟩⟩⟩⟩⟩⟩⟩⟩⟩⟩⟩⟩⟩⟩⟩⟩⟩⟩⟩⟩⟩⟩⟩⟩⟩⟩⟩⟩⟩⟩⟩⟩⟩⟩⟩⟩⟩⟩⟩⟩⟩⟩⟩⟩⟩
theorem layX8 {c0 : Cond} : ∀ w ∈ u_ws RX8 TX8 48, w ∈ c0 :: ALL := fun w h => inA (layX8a w h)
def nestF : List (String × Nat × String × String × String × String) := [("ControlText", 62, "ControlText$Bytes", "size", "I", "ControlText"), ("ControlText$Tokens", 89, "ControlText$Bytes", "size", "I", "ControlText"), ("ControlText$Writer", 141, "ControlText$Bytes", "size", "I", "ControlText"), ("ControlText", 99, "ControlText$Names", "size", "I", "ControlText"), ("ControlText$Parser", 100, "ControlText$Tokens", "kinds", "[I", "ControlText"), ("ControlText$Parser", 104, "ControlText$Tokens", "places", "[I", "ControlText"), ("ControlText$Parser", 107, "ControlText$Tokens", "values", "[I", "ControlText"), ("ControlText$Parser", 97, "ControlText$Tokens", "size", "I", "ControlText"), ("ControlText$Writer", 29, "ControlText$Tree", "size", "I", "ControlText"), ("ControlText", 98, "ControlText$Tree", "size", "I", "ControlText"), ("ControlText$Parser", 165, "ControlText$Tree", "size", "I", "ControlText"), ("ControlText", 85, "ControlText$Parser", "fault", "I", "ControlText"), ("ControlText", 95, "ControlText$Parser", "faultPlace", "I", "ControlText")]
def nestM : List (String × Nat × MethodName × String) := [("ControlText$Names", 66, yX6_great, "ControlText"), ("ControlText", 39, yX3_init, "ControlText"), ("ControlText$Tokens", 61, yX6_great, "ControlText"), ("ControlText$Tokens", 67, yX6_isDigit, "ControlText"), ("ControlText$Tokens", 74, yX6_isNameByte, "ControlText"), ("ControlText$Writer", 145, yX6_isNameByte, "ControlText")]
theorem nf0 : ("ControlText", 62, "ControlText$Bytes", "size", "I", "ControlText") ∈ nestF := List.mem_of_getElem? (i := 0) rfl
theorem nf1 : ("ControlText$Tokens", 89, "ControlText$Bytes", "size", "I", "ControlText") ∈ nestF := List.mem_of_getElem? (i := 1) rfl
theorem nf2 : ("ControlText$Writer", 141, "ControlText$Bytes", "size", "I", "ControlText") ∈ nestF := List.mem_of_getElem? (i := 2) rfl
theorem nf3 : ("ControlText", 99, "ControlText$Names", "size", "I", "ControlText") ∈ nestF := List.mem_of_getElem? (i := 3) rfl
theorem nf4 : ("ControlText$Parser", 100, "ControlText$Tokens", "kinds", "[I", "ControlText") ∈ nestF := List.mem_of_getElem? (i := 4) rfl
theorem nf5 : ("ControlText$Parser", 104, "ControlText$Tokens", "places", "[I", "ControlText") ∈ nestF := List.mem_of_getElem? (i := 5) rfl
theorem nf6 : ("ControlText$Parser", 107, "ControlText$Tokens", "values", "[I", "ControlText") ∈ nestF := List.mem_of_getElem? (i := 6) rfl
theorem nf7 : ("ControlText$Parser", 97, "ControlText$Tokens", "size", "I", "ControlText") ∈ nestF := List.mem_of_getElem? (i := 7) rfl
theorem nf8 : ("ControlText$Writer", 29, "ControlText$Tree", "size", "I", "ControlText") ∈ nestF := List.mem_of_getElem? (i := 8) rfl
theorem nf9 : ("ControlText", 98, "ControlText$Tree", "size", "I", "ControlText") ∈ nestF := List.mem_of_getElem? (i := 9) rfl
theorem nf10 : ("ControlText$Parser", 165, "ControlText$Tree", "size", "I", "ControlText") ∈ nestF := List.mem_of_getElem? (i := 10) rfl
theorem nf11 : ("ControlText", 85, "ControlText$Parser", "fault", "I", "ControlText") ∈ nestF := List.mem_of_getElem? (i := 11) rfl
theorem nf12 : ("ControlText", 95, "ControlText$Parser", "faultPlace", "I", "ControlText") ∈ nestF := List.mem_of_getElem? (i := 12) rfl
theorem nm0_in : ("ControlText$Names", 66, yX6_great, "ControlText") ∈ nestM := List.mem_of_getElem? (i := 0) rfl
theorem nm1_in : ("ControlText", 39, yX3_init, "ControlText") ∈ nestM := List.mem_of_getElem? (i := 1) rfl
theorem nm2_in : ("ControlText$Tokens", 61, yX6_great, "ControlText") ∈ nestM := List.mem_of_getElem? (i := 2) rfl
theorem nm3_in : ("ControlText$Tokens", 67, yX6_isDigit, "ControlText") ∈ nestM := List.mem_of_getElem? (i := 3) rfl
theorem nm4_in : ("ControlText$Tokens", 74, yX6_isNameByte, "ControlText") ∈ nestM := List.mem_of_getElem? (i := 4) rfl
theorem nm5_in : ("ControlText$Writer", 145, yX6_isNameByte, "ControlText") ∈ nestM := List.mem_of_getElem? (i := 5) rfl
abbrev t_BETWEEN : List Int32 := [286, 287, 38, 61, 15422, 60, 62, 15421, 15933, 43, 45, 42, 47, 289]
abbrev t_BINDING : List Int32 := [0, 1, 2, 3, 3, 4, 4, 4, 4, 5, 5, 6, 6, 6]
def statA : List (String × String × Nat × List Int32) := [("ControlText$Sign", "BETWEEN", 0, t_BETWEEN), ("ControlText$Sign", "BINDING", 1, t_BINDING)]
theorem st0 : ("ControlText$Sign", "BETWEEN", 0, t_BETWEEN) ∈ statA := List.mem_of_getElem? (i := 0) rfl
theorem st1 : ("ControlText$Sign", "BINDING", 1, t_BINDING) ∈ statA := List.mem_of_getElem? (i := 1) rfl

section
/-! One turn of the reference, symbol by symbol. -/
theorem act_100 {C : S_MC} {X : S_MX} {L : S_ML} {N : S_MN} {T : S_MT} {U : S_MU} {O : S_MO} {E : S_ME} {r2 : S_ML × S_MN × S_MT × S_MU} (hr2 : f_Model_blocks C X L N T U = some r2) : f_Model_act C X L N T U O E 100 = some (r2.1, r2.2.1, r2.2.2.1, r2.2.2.2, O, E) := by
  show (((f_Model_blocks C X L N T U).bind fun r2 => some (r2.1, r2.2.1, r2.2.2.1, r2.2.2.2, O)) : Option (S_ML × S_MN × S_MT × S_MU × S_MO)).bind (fun r => some (r.1, r.2.1, r.2.2.1, r.2.2.2.1, r.2.2.2.2, E)) = _
  rw [hr2]; rfl
theorem act_101 {C : S_MC} {X : S_MX} {L : S_ML} {N : S_MN} {T : S_MT} {U : S_MU} {O : S_MO} {E : S_ME} {r4 : S_MT} (hr4 : f_Model_up T = some r4) : f_Model_act C X L N T U O E 101 = some (L, N, r4, U, O, E) := by
  show (((f_Model_up T).bind fun r4 => some (L, N, r4, U, O)) : Option (S_ML × S_MN × S_MT × S_MU × S_MO)).bind (fun r => some (r.1, r.2.1, r.2.2.1, r.2.2.2.1, r.2.2.2.2, E)) = _
  rw [hr4]; rfl
theorem act_102 {C : S_MC} {X : S_MX} {L : S_ML} {N : S_MN} {T : S_MT} {U : S_MU} {O : S_MO} {E : S_ME} {r6 : S_ML × S_MN × S_MT × S_MU} (hr6 : f_Model_body C X L N T U = some r6) : f_Model_act C X L N T U O E 102 = some (r6.1, r6.2.1, r6.2.2.1, r6.2.2.2, O, E) := by
  show (((f_Model_body C X L N T U).bind fun r6 => some (r6.1, r6.2.1, r6.2.2.1, r6.2.2.2, O)) : Option (S_ML × S_MN × S_MT × S_MU × S_MO)).bind (fun r => some (r.1, r.2.1, r.2.2.1, r.2.2.2.1, r.2.2.2.2, E)) = _
  rw [hr6]; rfl
theorem act_103 {C : S_MC} {X : S_MX} {L : S_ML} {N : S_MN} {T : S_MT} {U : S_MU} {O : S_MO} {E : S_ME} {r8 : S_ML × S_MN × S_MT × S_MU} (hr8 : f_Model_sections C X L N T U = some r8) : f_Model_act C X L N T U O E 103 = some (r8.1, r8.2.1, r8.2.2.1, r8.2.2.2, O, E) := by
  show (((f_Model_sections C X L N T U).bind fun r8 => some (r8.1, r8.2.1, r8.2.2.1, r8.2.2.2, O)) : Option (S_ML × S_MN × S_MT × S_MU × S_MO)).bind (fun r => some (r.1, r.2.1, r.2.2.1, r.2.2.2.1, r.2.2.2.2, E)) = _
  rw [hr8]; rfl
theorem act_104 {C : S_MC} {X : S_MX} {L : S_ML} {N : S_MN} {T : S_MT} {U : S_MU} {O : S_MO} {E : S_ME} {r10 : S_ML × S_MN × S_MT} (hr10 : f_Model_simple C X L N T = some r10) : f_Model_act C X L N T U O E 104 = some (r10.1, r10.2.1, r10.2.2, U, O, E) := by
  show (((f_Model_simple C X L N T).bind fun r10 => some (r10.1, r10.2.1, r10.2.2, U, O)) : Option (S_ML × S_MN × S_MT × S_MU × S_MO)).bind (fun r => some (r.1, r.2.1, r.2.2.1, r.2.2.2.1, r.2.2.2.2, E)) = _
  rw [hr10]; rfl
theorem act_105 {C : S_MC} {X : S_MX} {L : S_ML} {N : S_MN} {T : S_MT} {U : S_MU} {O : S_MO} {E : S_ME} {r12 : S_ML × S_MN × S_MT} (hr12 : f_Model_title C X L N T = some r12) : f_Model_act C X L N T U O E 105 = some (r12.1, r12.2.1, r12.2.2, U, O, E) := by
  show (((f_Model_title C X L N T).bind fun r12 => some (r12.1, r12.2.1, r12.2.2, U, O)) : Option (S_ML × S_MN × S_MT × S_MU × S_MO)).bind (fun r => some (r.1, r.2.1, r.2.2.1, r.2.2.2.1, r.2.2.2.2, E)) = _
  rw [hr12]; rfl
theorem act_106 {C : S_MC} {X : S_MX} {L : S_ML} {N : S_MN} {T : S_MT} {U : S_MU} {O : S_MO} {E : S_ME} {r14 : S_MT × S_MU} (hr14 : f_Model_declarations L T U = some r14) : f_Model_act C X L N T U O E 106 = some (L, N, r14.1, r14.2, O, E) := by
  show (((f_Model_declarations L T U).bind fun r14 => some (L, N, r14.1, r14.2, O)) : Option (S_ML × S_MN × S_MT × S_MU × S_MO)).bind (fun r => some (r.1, r.2.1, r.2.2.1, r.2.2.2.1, r.2.2.2.2, E)) = _
  rw [hr14]; rfl
theorem act_107 {C : S_MC} {X : S_MX} {L : S_ML} {N : S_MN} {T : S_MT} {U : S_MU} {O : S_MO} {E : S_ME} {r16 : S_MU} {r17 : S_ML × S_MN × S_MT} (hr16 : f_Model_push U 111 = some r16) (hr17 : f_Model_aName C X L N T = some r17) : f_Model_act C X L N T U O E 107 = some (r17.1, r17.2.1, r17.2.2, r16, O, E) := by
  show (((f_Model_push U 111).bind fun r16 => (f_Model_aName C X L N T).bind fun r17 => some (r17.1, r17.2.1, r17.2.2, r16, O)) : Option (S_ML × S_MN × S_MT × S_MU × S_MO)).bind (fun r => some (r.1, r.2.1, r.2.2.1, r.2.2.2.1, r.2.2.2.2, E)) = _
  rw [hr16, ob_some, hr17]; rfl
theorem act_108 {C : S_MC} {X : S_MX} {L : S_ML} {N : S_MN} {T : S_MT} {U : S_MU} {O : S_MO} {E : S_ME} {r19 : S_ML × S_MN × S_MU} (hr19 : f_Model_perhaps C X L N U 10 (-1) 112 = some r19) : f_Model_act C X L N T U O E 108 = some (r19.1, r19.2.1, T, r19.2.2, O, E) := by
  show (((f_Model_perhaps C X L N U 10 (-1) 112).bind fun r19 => some (r19.1, r19.2.1, T, r19.2.2, O)) : Option (S_ML × S_MN × S_MT × S_MU × S_MO)).bind (fun r => some (r.1, r.2.1, r.2.2.1, r.2.2.2.1, r.2.2.2.2, E)) = _
  rw [hr19]; rfl
theorem act_109 {C : S_MC} {X : S_MX} {L : S_ML} {N : S_MN} {T : S_MT} {U : S_MU} {O : S_MO} {E : S_ME} {r21 : S_ML × S_MN × S_MT × S_MU} (hr21 : f_Model_type C X L N T U = some r21) : f_Model_act C X L N T U O E 109 = some (r21.1, r21.2.1, r21.2.2.1, r21.2.2.2, O, E) := by
  show (((f_Model_type C X L N T U).bind fun r21 => some (r21.1, r21.2.1, r21.2.2.1, r21.2.2.2, O)) : Option (S_ML × S_MN × S_MT × S_MU × S_MO)).bind (fun r => some (r.1, r.2.1, r.2.2.1, r.2.2.2.1, r.2.2.2.2, E)) = _
  rw [hr21]; rfl
theorem act_110 {C : S_MC} {X : S_MX} {L : S_ML} {N : S_MN} {T : S_MT} {U : S_MU} {O : S_MO} {E : S_ME} {r23 : S_ML × S_MN × S_MU} (hr23 : f_Model_perhaps C X L N U 50 (-1) 113 = some r23) : f_Model_act C X L N T U O E 110 = some (r23.1, r23.2.1, T, r23.2.2, O, E) := by
  show (((f_Model_perhaps C X L N U 50 (-1) 113).bind fun r23 => some (r23.1, r23.2.1, T, r23.2.2, O)) : Option (S_ML × S_MN × S_MT × S_MU × S_MO)).bind (fun r => some (r.1, r.2.1, r.2.2.1, r.2.2.2.1, r.2.2.2.2, E)) = _
  rw [hr23]; rfl
theorem act_111 {C : S_MC} {X : S_MX} {L : S_ML} {N : S_MN} {T : S_MT} {U : S_MU} {O : S_MO} {E : S_ME} {r25 : S_ML × S_MN × S_MU} (hr25 : f_Model_perhaps C X L N U 59 (-1) 107 = some r25) : f_Model_act C X L N T U O E 111 = some (r25.1, r25.2.1, T, r25.2.2, O, E) := by
  show (((f_Model_perhaps C X L N U 59 (-1) 107).bind fun r25 => some (r25.1, r25.2.1, T, r25.2.2, O)) : Option (S_ML × S_MN × S_MT × S_MU × S_MO)).bind (fun r => some (r.1, r.2.1, r.2.2.1, r.2.2.2.1, r.2.2.2.2, E)) = _
  rw [hr25]; rfl
theorem act_112 {C : S_MC} {X : S_MX} {L : S_ML} {N : S_MN} {T : S_MT} {U : S_MU} {O : S_MO} {E : S_ME} {r27 : S_MT} {r28 : S_ML × S_MN} (hr27 : f_Model_leaf T 7 L.1 L.2.2.1 = some r27) (hr28 : f_Model_pass C X L N 82 = some r28) : f_Model_act C X L N T U O E 112 = some (r28.1, r28.2, r27, U, O, E) := by
  show (((f_Model_leaf T 7 L.1 L.2.2.1).bind fun r27 => (f_Model_pass C X L N 82).bind fun r28 => some (r28.1, r28.2, r27, U, O)) : Option (S_ML × S_MN × S_MT × S_MU × S_MO)).bind (fun r => some (r.1, r.2.1, r.2.2.1, r.2.2.2.1, r.2.2.2.2, E)) = _
  rw [hr27, ob_some, hr28]; rfl
theorem act_113 {C : S_MC} {X : S_MX} {L : S_ML} {N : S_MN} {T : S_MT} {U : S_MU} {O : S_MO} {E : S_ME} {r30 : S_ML × S_MN × S_MT × S_MU × S_MO} (hr30 : f_Model_constant C X L N T U O = some r30) : f_Model_act C X L N T U O E 113 = some (r30.1, r30.2.1, r30.2.2.1, r30.2.2.2.1, r30.2.2.2.2, E) := by
  show (((f_Model_constant C X L N T U O).bind fun r30 => some (r30.1, r30.2.1, r30.2.2.1, r30.2.2.2.1, r30.2.2.2.2)) : Option (S_ML × S_MN × S_MT × S_MU × S_MO)).bind (fun r => some (r.1, r.2.1, r.2.2.1, r.2.2.2.1, r.2.2.2.2, E)) = _
  rw [hr30]; rfl
theorem act_114 {C : S_MC} {X : S_MX} {L : S_ML} {N : S_MN} {T : S_MT} {U : S_MU} {O : S_MO} {E : S_ME} {r31 : S_ML × S_MN × S_MT} (hr31 : f_Model_lessNumber C X L N T O = some r31) : f_Model_act C X L N T U O E 114 = some (r31.1, r31.2.1, r31.2.2, U, O, E) := by
  show (((f_Model_lessNumber C X L N T O).bind fun r31 => some (r31.1, r31.2.1, r31.2.2, U, O)) : Option (S_ML × S_MN × S_MT × S_MU × S_MO)).bind (fun r => some (r.1, r.2.1, r.2.2.1, r.2.2.2.1, r.2.2.2.2, E)) = _
  rw [hr31]; rfl
theorem act_115 {C : S_MC} {X : S_MX} {L : S_ML} {N : S_MN} {T : S_MT} {U : S_MU} {O : S_MO} {E : S_ME} {r2 : S_ML × S_MN × S_MT × S_MU × S_MO} (hr2 : f_Model_statements C X L N T U O = some r2) : f_Model_act C X L N T U O E 115 = some (r2.1, r2.2.1, r2.2.2.1, r2.2.2.2.1, r2.2.2.2.2, E) := by
  show (((f_Model_statements C X L N T U O).bind fun r2 => some (r2.1, r2.2.1, r2.2.2.1, r2.2.2.2.1, r2.2.2.2.2)) : Option (S_ML × S_MN × S_MT × S_MU × S_MO)).bind (fun r => some (r.1, r.2.1, r.2.2.1, r.2.2.2.1, r.2.2.2.2, E)) = _
  rw [hr2]; rfl
theorem act_116 {C : S_MC} {X : S_MX} {L : S_ML} {N : S_MN} {T : S_MT} {U : S_MU} {O : S_MO} {E : S_ME} {r4 : S_ML × S_MN × S_MT × S_MU × S_MO} (hr4 : f_Model_behindName C X L N T U O = some r4) : f_Model_act C X L N T U O E 116 = some (r4.1, r4.2.1, r4.2.2.1, r4.2.2.2.1, r4.2.2.2.2, E) := by
  show (((f_Model_behindName C X L N T U O).bind fun r4 => some (r4.1, r4.2.1, r4.2.2.1, r4.2.2.2.1, r4.2.2.2.2)) : Option (S_ML × S_MN × S_MT × S_MU × S_MO)).bind (fun r => some (r.1, r.2.1, r.2.2.1, r.2.2.2.1, r.2.2.2.2, E)) = _
  rw [hr4]; rfl
theorem act_117 {C : S_MC} {X : S_MX} {L : S_ML} {N : S_MN} {T : S_MT} {U : S_MU} {O : S_MO} {E : S_ME} {r6 : S_ML × S_MN × S_MT × S_MU} (hr6 : f_Model_ifRest C X L N T U = some r6) : f_Model_act C X L N T U O E 117 = some (r6.1, r6.2.1, r6.2.2.1, r6.2.2.2, O, E) := by
  show (((f_Model_ifRest C X L N T U).bind fun r6 => some (r6.1, r6.2.1, r6.2.2.1, r6.2.2.2, O)) : Option (S_ML × S_MN × S_MT × S_MU × S_MO)).bind (fun r => some (r.1, r.2.1, r.2.2.1, r.2.2.2.1, r.2.2.2.2, E)) = _
  rw [hr6]; rfl
theorem act_118 {C : S_MC} {X : S_MX} {L : S_ML} {N : S_MN} {T : S_MT} {U : S_MU} {O : S_MO} {E : S_ME} {r8 : S_MT} (hr8 : f_Model_up T = some r8) : f_Model_act C X L N T U O E 118 = some (L, N, r8, U, (O.1 - 1, O.2), E) := by
  show (((f_Model_up T).bind fun r8 => some (L, N, r8, U, (O.1 - 1, O.2))) : Option (S_ML × S_MN × S_MT × S_MU × S_MO)).bind (fun r => some (r.1, r.2.1, r.2.2.1, r.2.2.2.1, r.2.2.2.2, E)) = _
  rw [hr8]; rfl
theorem act_119 {C : S_MC} {X : S_MX} {L : S_ML} {N : S_MN} {T : S_MT} {U : S_MU} {O : S_MO} {E : S_ME} {r10 : S_ML × S_MN × S_MT × S_MU} (hr10 : f_Model_bodyBehind C X L N T U 17 = some r10) : f_Model_act C X L N T U O E 119 = some (r10.1, r10.2.1, r10.2.2.1, r10.2.2.2, O, E) := by
  show (((f_Model_bodyBehind C X L N T U 17).bind fun r10 => some (r10.1, r10.2.1, r10.2.2.1, r10.2.2.2, O)) : Option (S_ML × S_MN × S_MT × S_MU × S_MO)).bind (fun r => some (r.1, r.2.1, r.2.2.1, r.2.2.2.1, r.2.2.2.2, E)) = _
  rw [hr10]; rfl
theorem act_120 {C : S_MC} {X : S_MX} {L : S_ML} {N : S_MN} {T : S_MT} {U : S_MU} {O : S_MO} {E : S_ME} {r12 : S_ML × S_MN × S_MT × S_MU} (hr12 : f_Model_elseBody C X L N T U = some r12) : f_Model_act C X L N T U O E 120 = some (r12.1, r12.2.1, r12.2.2.1, r12.2.2.2, O, E) := by
  show (((f_Model_elseBody C X L N T U).bind fun r12 => some (r12.1, r12.2.1, r12.2.2.1, r12.2.2.2, O)) : Option (S_ML × S_MN × S_MT × S_MU × S_MO)).bind (fun r => some (r.1, r.2.1, r.2.2.1, r.2.2.2.1, r.2.2.2.2, E)) = _
  rw [hr12]; rfl
theorem act_121 {C : S_MC} {X : S_MX} {L : S_ML} {N : S_MN} {T : S_MT} {U : S_MU} {O : S_MO} {E : S_ME} {r14 : S_MT × S_MU} (hr14 : f_Model_choices L T U = some r14) : f_Model_act C X L N T U O E 121 = some (L, N, r14.1, r14.2, O, E) := by
  show (((f_Model_choices L T U).bind fun r14 => some (L, N, r14.1, r14.2, O)) : Option (S_ML × S_MN × S_MT × S_MU × S_MO)).bind (fun r => some (r.1, r.2.1, r.2.2.1, r.2.2.2.1, r.2.2.2.2, E)) = _
  rw [hr14]; rfl
theorem act_122 {C : S_MC} {X : S_MX} {L : S_ML} {N : S_MN} {T : S_MT} {U : S_MU} {O : S_MO} {E : S_ME} {r16 : S_ML × S_MN × S_MT × S_MU} (hr16 : f_Model_bodyBehind C X L N T U 61 = some r16) : f_Model_act C X L N T U O E 122 = some (r16.1, r16.2.1, r16.2.2.1, r16.2.2.2, O, E) := by
  show (((f_Model_bodyBehind C X L N T U 61).bind fun r16 => some (r16.1, r16.2.1, r16.2.2.1, r16.2.2.2, O)) : Option (S_ML × S_MN × S_MT × S_MU × S_MO)).bind (fun r => some (r.1, r.2.1, r.2.2.1, r.2.2.2.1, r.2.2.2.2, E)) = _
  rw [hr16]; rfl
theorem act_123 {C : S_MC} {X : S_MX} {L : S_ML} {N : S_MN} {T : S_MT} {U : S_MU} {O : S_MO} {E : S_ME} {r18 : S_MT × S_MU} (hr18 : f_Model_range L T U = some r18) : f_Model_act C X L N T U O E 123 = some (L, N, r18.1, r18.2, O, E) := by
  show (((f_Model_range L T U).bind fun r18 => some (L, N, r18.1, r18.2, O)) : Option (S_ML × S_MN × S_MT × S_MU × S_MO)).bind (fun r => some (r.1, r.2.1, r.2.2.1, r.2.2.2.1, r.2.2.2.2, E)) = _
  rw [hr18]; rfl
theorem act_124 {C : S_MC} {X : S_MX} {L : S_ML} {N : S_MN} {T : S_MT} {U : S_MU} {O : S_MO} {E : S_ME} {r20 : S_ML × S_MN × S_MU} (hr20 : f_Model_perhaps C X L N U 59 124 123 = some r20) : f_Model_act C X L N T U O E 124 = some (r20.1, r20.2.1, T, r20.2.2, O, E) := by
  show (((f_Model_perhaps C X L N U 59 124 123).bind fun r20 => some (r20.1, r20.2.1, T, r20.2.2, O)) : Option (S_ML × S_MN × S_MT × S_MU × S_MO)).bind (fun r => some (r.1, r.2.1, r.2.2.1, r.2.2.2.1, r.2.2.2.2, E)) = _
  rw [hr20]; rfl
theorem act_125 {C : S_MC} {X : S_MX} {L : S_ML} {N : S_MN} {T : S_MT} {U : S_MU} {O : S_MO} {E : S_ME} {r22 : S_ML × S_MN × S_MU} (hr22 : f_Model_perhaps C X L N U 51 (-1) 113 = some r22) : f_Model_act C X L N T U O E 125 = some (r22.1, r22.2.1, T, r22.2.2, O, E) := by
  show (((f_Model_perhaps C X L N U 51 (-1) 113).bind fun r22 => some (r22.1, r22.2.1, T, r22.2.2, O)) : Option (S_ML × S_MN × S_MT × S_MU × S_MO)).bind (fun r => some (r.1, r.2.1, r.2.2.1, r.2.2.2.1, r.2.2.2.2, E)) = _
  rw [hr22]; rfl
theorem act_126 {C : S_MC} {X : S_MX} {L : S_ML} {N : S_MN} {T : S_MT} {U : S_MU} {O : S_MO} {E : S_ME} {r24 : S_ML × S_MN × S_MT × S_MU} (hr24 : f_Model_bodyBehind C X L N T U 26 = some r24) : f_Model_act C X L N T U O E 126 = some (r24.1, r24.2.1, r24.2.2.1, r24.2.2.2, O, E) := by
  show (((f_Model_bodyBehind C X L N T U 26).bind fun r24 => some (r24.1, r24.2.1, r24.2.2.1, r24.2.2.2, O)) : Option (S_ML × S_MN × S_MT × S_MU × S_MO)).bind (fun r => some (r.1, r.2.1, r.2.2.1, r.2.2.2.1, r.2.2.2.2, E)) = _
  rw [hr24]; rfl
theorem act_127 {C : S_MC} {X : S_MX} {L : S_ML} {N : S_MN} {T : S_MT} {U : S_MU} {O : S_MO} {E : S_ME} {r26 : S_ML × S_MN × S_MU} (hr26 : f_Model_perhaps C X L N U 25 (-1) 113 = some r26) : f_Model_act C X L N T U O E 127 = some (r26.1, r26.2.1, T, r26.2.2, O, E) := by
  show (((f_Model_perhaps C X L N U 25 (-1) 113).bind fun r26 => some (r26.1, r26.2.1, T, r26.2.2, O)) : Option (S_ML × S_MN × S_MT × S_MU × S_MO)).bind (fun r => some (r.1, r.2.1, r.2.2.1, r.2.2.2.1, r.2.2.2.2, E)) = _
  rw [hr26]; rfl
theorem act_128 {C : S_MC} {X : S_MX} {L : S_ML} {N : S_MN} {T : S_MT} {U : S_MU} {O : S_MO} {E : S_ME} {r28 : S_ML × S_MN × S_MT} (hr28 : f_Model_assign C X L N T = some r28) : f_Model_act C X L N T U O E 128 = some (r28.1, r28.2.1, r28.2.2, U, O, E) := by
  show (((f_Model_assign C X L N T).bind fun r28 => some (r28.1, r28.2.1, r28.2.2, U, O)) : Option (S_ML × S_MN × S_MT × S_MU × S_MO)).bind (fun r => some (r.1, r.2.1, r.2.2.1, r.2.2.2.1, r.2.2.2.2, E)) = _
  rw [hr28]; rfl
theorem act_129 {C : S_MC} {X : S_MX} {L : S_ML} {N : S_MN} {T : S_MT} {U : S_MU} {O : S_MO} {E : S_ME} {r30 : S_ML × S_MN × S_MT × S_MO} (hr30 : f_Model_indexEnd C X L N T O = some r30) : f_Model_act C X L N T U O E 129 = some (r30.1, r30.2.1, r30.2.2.1, U, r30.2.2.2, E) := by
  show (((f_Model_indexEnd C X L N T O).bind fun r30 => some (r30.1, r30.2.1, r30.2.2.1, U, r30.2.2.2)) : Option (S_ML × S_MN × S_MT × S_MU × S_MO)).bind (fun r => some (r.1, r.2.1, r.2.2.1, r.2.2.2.1, r.2.2.2.2, E)) = _
  rw [hr30]; rfl
theorem act_130 {C : S_MC} {X : S_MX} {L : S_ML} {N : S_MN} {T : S_MT} {U : S_MU} {O : S_MO} {E : S_ME} {r32 : S_ML × S_MN} (hr32 : f_Model_pass C X L N 56 = some r32) : f_Model_act C X L N T U O E 130 = some (r32.1, r32.2, T, U, (O.1 - 1, O.2), E) := by
  show (((f_Model_pass C X L N 56).bind fun r32 => some (r32.1, r32.2, T, U, (O.1 - 1, O.2))) : Option (S_ML × S_MN × S_MT × S_MU × S_MO)).bind (fun r => some (r.1, r.2.1, r.2.2.1, r.2.2.2.1, r.2.2.2.2, E)) = _
  rw [hr32]; rfl
theorem act_131 {C : S_MC} {X : S_MX} {L : S_ML} {N : S_MN} {T : S_MT} {U : S_MU} {O : S_MO} {E : S_ME} : f_Model_act C X L N T U O E 131 = ((if L.2.1 = 80 then
      (f_Model_push2 U 133 132).bind fun r35 =>
      some (L, N, T, r35, O)
    else
      some (L, N, T, U, O)) : Option (S_ML × S_MN × S_MT × S_MU × S_MO)).bind (fun r => some (r.1, r.2.1, r.2.2.1, r.2.2.2.1, r.2.2.2.2, E)) := rfl
theorem act_132 {C : S_MC} {X : S_MX} {L : S_ML} {N : S_MN} {T : S_MT} {U : S_MU} {O : S_MO} {E : S_ME} {r37 : S_ML × S_MN × S_MT × S_MU} (hr37 : f_Model_parameter C X L N T U = some r37) : f_Model_act C X L N T U O E 132 = some (r37.1, r37.2.1, r37.2.2.1, r37.2.2.2, O, E) := by
  show (((f_Model_parameter C X L N T U).bind fun r37 => some (r37.1, r37.2.1, r37.2.2.1, r37.2.2.2, O)) : Option (S_ML × S_MN × S_MT × S_MU × S_MO)).bind (fun r => some (r.1, r.2.1, r.2.2.1, r.2.2.2.1, r.2.2.2.2, E)) = _
  rw [hr37]; rfl
theorem act_133 {C : S_MC} {X : S_MX} {L : S_ML} {N : S_MN} {T : S_MT} {U : S_MU} {O : S_MO} {E : S_ME} {r38 : S_ML × S_MN × S_MU} (hr38 : f_Model_perhaps C X L N U 59 133 132 = some r38) : f_Model_act C X L N T U O E 133 = some (r38.1, r38.2.1, T, r38.2.2, O, E) := by
  show (((f_Model_perhaps C X L N U 59 133 132).bind fun r38 => some (r38.1, r38.2.1, T, r38.2.2, O)) : Option (S_ML × S_MN × S_MT × S_MU × S_MO)).bind (fun r => some (r.1, r.2.1, r.2.2.1, r.2.2.2.1, r.2.2.2.2, E)) = _
  rw [hr38]; rfl
theorem act_134 {C : S_MC} {X : S_MX} {L : S_ML} {N : S_MN} {T : S_MT} {U : S_MU} {O : S_MO} {E : S_ME} {r2 : S_MU × S_MO × S_ME} (hr2 : f_Model_expression U O E = some r2) : f_Model_act C X L N T U O E 134 = some (L, N, T, r2.1, r2.2.1, r2.2.2) := by
  show (((f_Model_expression U O E).bind fun r2 => some (L, N, T, r2.1, r2.2.1, r2.2.2)) : Option (S_ML × S_MN × S_MT × S_MU × S_MO × S_ME)).bind (fun r => some (r.1, r.2.1, r.2.2.1, r.2.2.2.1, r.2.2.2.2.1, r.2.2.2.2.2)) = _
  rw [hr2]; rfl
theorem act_135 {C : S_MC} {X : S_MX} {L : S_ML} {N : S_MN} {T : S_MT} {U : S_MU} {O : S_MO} {E : S_ME} {r4 : S_ML × S_MN × S_MT × S_MU × S_MO × S_ME} (hr4 : f_Model_anOperand C X L N T U O E = some r4) : f_Model_act C X L N T U O E 135 = some (r4.1, r4.2.1, r4.2.2.1, r4.2.2.2.1, r4.2.2.2.2.1, r4.2.2.2.2.2) := by
  show (((f_Model_anOperand C X L N T U O E).bind fun r4 => some (r4.1, r4.2.1, r4.2.2.1, r4.2.2.2.1, r4.2.2.2.2.1, r4.2.2.2.2.2)) : Option (S_ML × S_MN × S_MT × S_MU × S_MO × S_ME)).bind (fun r => some (r.1, r.2.1, r.2.2.1, r.2.2.2.1, r.2.2.2.2.1, r.2.2.2.2.2)) = _
  rw [hr4]; rfl
theorem act_136 {C : S_MC} {X : S_MX} {L : S_ML} {N : S_MN} {T : S_MT} {U : S_MU} {O : S_MO} {E : S_ME} {r6 : S_ML × S_MN × S_MT × S_MU × S_MO × S_ME} (hr6 : f_Model_signRest C X L N T U O E = some r6) : f_Model_act C X L N T U O E 136 = some (r6.1, r6.2.1, r6.2.2.1, r6.2.2.2.1, r6.2.2.2.2.1, r6.2.2.2.2.2) := by
  show (((f_Model_signRest C X L N T U O E).bind fun r6 => some (r6.1, r6.2.1, r6.2.2.1, r6.2.2.2.1, r6.2.2.2.2.1, r6.2.2.2.2.2)) : Option (S_ML × S_MN × S_MT × S_MU × S_MO × S_ME)).bind (fun r => some (r.1, r.2.1, r.2.2.1, r.2.2.2.1, r.2.2.2.2.1, r.2.2.2.2.2)) = _
  rw [hr6]; rfl
theorem act_137 {C : S_MC} {X : S_MX} {L : S_ML} {N : S_MN} {T : S_MT} {U : S_MU} {O : S_MO} {E : S_ME} {r8 : Int32 × S_ME} {r9 : S_MT} (hr8 : f_Model_takeOperand E = some r8) (hr9 : f_Model_hang T r8.1 T.2.1 = some r9) : f_Model_act C X L N T U O E 137 = some (L, N, r9, U, O, r8.2) := by
  show (((f_Model_takeOperand E).bind fun r8 => (f_Model_hang T r8.1 T.2.1).bind fun r9 => some (L, N, r9, U, O, r8.2)) : Option (S_ML × S_MN × S_MT × S_MU × S_MO × S_ME)).bind (fun r => some (r.1, r.2.1, r.2.2.1, r.2.2.2.1, r.2.2.2.2.1, r.2.2.2.2.2)) = _
  rw [hr8, ob_some, hr9]; rfl
theorem act_138 {C : S_MC} {X : S_MX} {L : S_ML} {N : S_MN} {T : S_MT} {U : S_MU} {O : S_MO} {E : S_ME} {r11 : S_ML × S_MN × S_MT × S_MO × S_ME} (hr11 : f_Model_groupEnd C X L N T O E = some r11) : f_Model_act C X L N T U O E 138 = some (r11.1, r11.2.1, r11.2.2.1, U, r11.2.2.2.1, r11.2.2.2.2) := by
  show (((f_Model_groupEnd C X L N T O E).bind fun r11 => some (r11.1, r11.2.1, r11.2.2.1, U, r11.2.2.2.1, r11.2.2.2.2)) : Option (S_ML × S_MN × S_MT × S_MU × S_MO × S_ME)).bind (fun r => some (r.1, r.2.1, r.2.2.1, r.2.2.2.1, r.2.2.2.2.1, r.2.2.2.2.2)) = _
  rw [hr11]; rfl
theorem act_139 {C : S_MC} {X : S_MX} {L : S_ML} {N : S_MN} {T : S_MT} {U : S_MU} {O : S_MO} {E : S_ME} {r13 : S_ML × S_MN × S_MT × S_MU × S_MO × S_ME} (hr13 : f_Model_behindOperand C X L N T U O E = some r13) : f_Model_act C X L N T U O E 139 = some (r13.1, r13.2.1, r13.2.2.1, r13.2.2.2.1, r13.2.2.2.2.1, r13.2.2.2.2.2) := by
  show (((f_Model_behindOperand C X L N T U O E).bind fun r13 => some (r13.1, r13.2.1, r13.2.2.1, r13.2.2.2.1, r13.2.2.2.2.1, r13.2.2.2.2.2)) : Option (S_ML × S_MN × S_MT × S_MU × S_MO × S_ME)).bind (fun r => some (r.1, r.2.1, r.2.2.1, r.2.2.2.1, r.2.2.2.2.1, r.2.2.2.2.2)) = _
  rw [hr13]; rfl
theorem act_140 {C : S_MC} {X : S_MX} {L : S_ML} {N : S_MN} {T : S_MT} {U : S_MU} {O : S_MO} {E : S_ME} {r15 : S_ML × S_MN × S_MT × S_MO × S_ME} (hr15 : f_Model_elementEnd C X L N T O E = some r15) : f_Model_act C X L N T U O E 140 = some (r15.1, r15.2.1, r15.2.2.1, U, r15.2.2.2.1, r15.2.2.2.2) := by
  show (((f_Model_elementEnd C X L N T O E).bind fun r15 => some (r15.1, r15.2.1, r15.2.2.1, U, r15.2.2.2.1, r15.2.2.2.2)) : Option (S_ML × S_MN × S_MT × S_MU × S_MO × S_ME)).bind (fun r => some (r.1, r.2.1, r.2.2.1, r.2.2.2.1, r.2.2.2.2.1, r.2.2.2.2.2)) = _
  rw [hr15]; rfl
theorem act_141 {C : S_MC} {X : S_MX} {L : S_ML} {N : S_MN} {T : S_MT} {U : S_MU} {O : S_MO} {E : S_ME} {r17 : S_ML × S_MN × S_MT × S_MO × S_ME} (hr17 : f_Model_output C X L N T O E = some r17) : f_Model_act C X L N T U O E 141 = some (r17.1, r17.2.1, r17.2.2.1, U, r17.2.2.2.1, r17.2.2.2.2) := by
  show (((f_Model_output C X L N T O E).bind fun r17 => some (r17.1, r17.2.1, r17.2.2.1, U, r17.2.2.2.1, r17.2.2.2.2)) : Option (S_ML × S_MN × S_MT × S_MU × S_MO × S_ME)).bind (fun r => some (r.1, r.2.1, r.2.2.1, r.2.2.2.1, r.2.2.2.2.1, r.2.2.2.2.2)) = _
  rw [hr17]; rfl
theorem act_142 {C : S_MC} {X : S_MX} {L : S_ML} {N : S_MN} {T : S_MT} {U : S_MU} {O : S_MO} {E : S_ME} : f_Model_act C X L N T U O E 142 = (((f_Model_isOperand L).bind fun r19 =>
    if r19 = 0 then
      some (L, N, T, U, O, E)
    else
      (f_Model_pushArgument U).bind fun r21 =>
      some (L, N, T, r21, O, E)) : Option (S_ML × S_MN × S_MT × S_MU × S_MO × S_ME)).bind (fun r => some (r.1, r.2.1, r.2.2.1, r.2.2.2.1, r.2.2.2.2.1, r.2.2.2.2.2)) := rfl
theorem act_143 {C : S_MC} {X : S_MX} {L : S_ML} {N : S_MN} {T : S_MT} {U : S_MU} {O : S_MO} {E : S_ME} {r23 : S_ML × S_MN × S_MT × S_MO × S_ME} (hr23 : f_Model_resultEnd C X L N T O E = some r23) : f_Model_act C X L N T U O E 143 = some (r23.1, r23.2.1, r23.2.2.1, U, r23.2.2.2.1, r23.2.2.2.2) := by
  show (((f_Model_resultEnd C X L N T O E).bind fun r23 => some (r23.1, r23.2.1, r23.2.2.1, U, r23.2.2.2.1, r23.2.2.2.2)) : Option (S_ML × S_MN × S_MT × S_MU × S_MO × S_ME)).bind (fun r => some (r.1, r.2.1, r.2.2.1, r.2.2.2.1, r.2.2.2.2.1, r.2.2.2.2.2)) = _
  rw [hr23]; rfl
theorem act_144 {C : S_MC} {X : S_MX} {L : S_ML} {N : S_MN} {T : S_MT} {U : S_MU} {O : S_MO} {E : S_ME} : f_Model_act C X L N T U O E 144 = ((if L.2.1 = 59 then
      (f_Model_pushArgument U).bind fun r26 =>
      (f_Model_step C X L N).bind fun r27 =>
      some (r27.1, r27.2, T, r26, O, E)
    else
      some (L, N, T, U, O, E)) : Option (S_ML × S_MN × S_MT × S_MU × S_MO × S_ME)).bind (fun r => some (r.1, r.2.1, r.2.2.1, r.2.2.2.1, r.2.2.2.2.1, r.2.2.2.2.2)) := rfl
theorem act_145 {C : S_MC} {X : S_MX} {L : S_ML} {N : S_MN} {T : S_MT} {U : S_MU} {O : S_MO} {E : S_ME} {r28 : S_MT × S_ME} (hr28 : f_Model_argument T E = some r28) : f_Model_act C X L N T U O E 145 = some (L, N, r28.1, U, O, r28.2) := by
  show (((f_Model_argument T E).bind fun r28 => some (L, N, r28.1, U, O, r28.2)) : Option (S_ML × S_MN × S_MT × S_MU × S_MO × S_ME)).bind (fun r => some (r.1, r.2.1, r.2.2.1, r.2.2.2.1, r.2.2.2.2.1, r.2.2.2.2.2)) = _
  rw [hr28]; rfl
theorem act_150 {C : S_MC} {X : S_MX} {L : S_ML} {N : S_MN} {T : S_MT} {U : S_MU} {O : S_MO} {E : S_ME} : f_Model_act C X L N T U O E 150 = ((if L.2.1 = 39 then
      (f_Model_down T 23 L.1 0).bind fun r3 =>
      (f_Model_push4 U 150 101 40 152).bind fun r4 =>
      (f_Model_push r4 151).bind fun r5 =>
      (f_Model_step C X L N).bind fun r6 =>
      some (r6.1, r6.2, r3, r5, O)
    else
      some (L, N, T, U, O)) : Option (S_ML × S_MN × S_MT × S_MU × S_MO)).bind (fun r => some (r.1, r.2.1, r.2.2.1, r.2.2.2.1, r.2.2.2.2, E)) := rfl
theorem act_151 {C : S_MC} {X : S_MX} {L : S_ML} {N : S_MN} {T : S_MT} {U : S_MU} {O : S_MO} {E : S_ME} {r8 : S_MT} {r9 : S_MU} (hr8 : f_Model_down T 24 L.1 0 = some r8) (hr9 : f_Model_push4 U 101 60 154 153 = some r9) : f_Model_act C X L N T U O E 151 = some (L, N, r8, r9, O, E) := by
  show (((f_Model_down T 24 L.1 0).bind fun r8 => (f_Model_push4 U 101 60 154 153).bind fun r9 => some (L, N, r8, r9, O)) : Option (S_ML × S_MN × S_MT × S_MU × S_MO)).bind (fun r => some (r.1, r.2.1, r.2.2.1, r.2.2.2.1, r.2.2.2.2, E)) = _
  rw [hr8, ob_some, hr9]; rfl
theorem act_152 {C : S_MC} {X : S_MX} {L : S_ML} {N : S_MN} {T : S_MT} {U : S_MU} {O : S_MO} {E : S_ME} : f_Model_act C X L N T U O E 152 = (((f_Model_isCell L).bind fun r11 =>
    if r11 = 0 then
      some (L, N, T, U, O)
    else
      (f_Model_push2 U 152 151).bind fun r13 =>
      some (L, N, T, r13, O)) : Option (S_ML × S_MN × S_MT × S_MU × S_MO)).bind (fun r => some (r.1, r.2.1, r.2.2.1, r.2.2.2.1, r.2.2.2.2, E)) := rfl
theorem act_153 {C : S_MC} {X : S_MX} {L : S_ML} {N : S_MN} {T : S_MT} {U : S_MU} {O : S_MO} {E : S_ME} {r15 : S_ML × S_MN × S_MT × S_MU} (hr15 : f_Model_cell C X L N T U = some r15) : f_Model_act C X L N T U O E 153 = some (r15.1, r15.2.1, r15.2.2.1, r15.2.2.2, O, E) := by
  show (((f_Model_cell C X L N T U).bind fun r15 => some (r15.1, r15.2.1, r15.2.2.1, r15.2.2.2, O)) : Option (S_ML × S_MN × S_MT × S_MU × S_MO)).bind (fun r => some (r.1, r.2.1, r.2.2.1, r.2.2.2.1, r.2.2.2.2, E)) = _
  rw [hr15]; rfl
theorem act_154 {C : S_MC} {X : S_MX} {L : S_ML} {N : S_MN} {T : S_MT} {U : S_MU} {O : S_MO} {E : S_ME} {r17 : S_ML × S_MN × S_MT × S_MU} (hr17 : f_Model_moreCells C X L N T U = some r17) : f_Model_act C X L N T U O E 154 = some (r17.1, r17.2.1, r17.2.2.1, r17.2.2.2, O, E) := by
  show (((f_Model_moreCells C X L N T U).bind fun r17 => some (r17.1, r17.2.1, r17.2.2.1, r17.2.2.2, O)) : Option (S_ML × S_MN × S_MT × S_MU × S_MO)).bind (fun r => some (r.1, r.2.1, r.2.2.1, r.2.2.2.1, r.2.2.2.2, E)) = _
  rw [hr17]; rfl
theorem act_155 {C : S_MC} {X : S_MX} {L : S_ML} {N : S_MN} {T : S_MT} {U : S_MU} {O : S_MO} {E : S_ME} {r19 : S_ML × S_MN × S_MU × S_MO} (hr19 : f_Model_contact C X L N U O = some r19) : f_Model_act C X L N T U O E 155 = some (r19.1, r19.2.1, T, r19.2.2.1, r19.2.2.2, E) := by
  show (((f_Model_contact C X L N U O).bind fun r19 => some (r19.1, r19.2.1, T, r19.2.2.1, r19.2.2.2)) : Option (S_ML × S_MN × S_MT × S_MU × S_MO)).bind (fun r => some (r.1, r.2.1, r.2.2.1, r.2.2.2.1, r.2.2.2.2, E)) = _
  rw [hr19]; rfl
theorem act_156 {C : S_MC} {X : S_MX} {L : S_ML} {N : S_MN} {T : S_MT} {U : S_MU} {O : S_MO} {E : S_ME} {r21 : S_ML × S_MN × S_MT × S_MU} (hr21 : f_Model_behindContact C X L N T U O = some r21) : f_Model_act C X L N T U O E 156 = some (r21.1, r21.2.1, r21.2.2.1, r21.2.2.2, O, E) := by
  show (((f_Model_behindContact C X L N T U O).bind fun r21 => some (r21.1, r21.2.1, r21.2.2.1, r21.2.2.2, O)) : Option (S_ML × S_MN × S_MT × S_MU × S_MO)).bind (fun r => some (r.1, r.2.1, r.2.2.1, r.2.2.2.1, r.2.2.2.2, E)) = _
  rw [hr21]; rfl
theorem act_157 {C : S_MC} {X : S_MX} {L : S_ML} {N : S_MN} {T : S_MT} {U : S_MU} {O : S_MO} {E : S_ME} {r23 : S_ML × S_MN × S_MT} (hr23 : f_Model_coil C X L N T = some r23) : f_Model_act C X L N T U O E 157 = some (r23.1, r23.2.1, r23.2.2, U, O, E) := by
  show (((f_Model_coil C X L N T).bind fun r23 => some (r23.1, r23.2.1, r23.2.2, U, O)) : Option (S_ML × S_MN × S_MT × S_MU × S_MO)).bind (fun r => some (r.1, r.2.1, r.2.2.1, r.2.2.2.1, r.2.2.2.2, E)) = _
  rw [hr23]; rfl
theorem act_158 {C : S_MC} {X : S_MX} {L : S_ML} {N : S_MN} {T : S_MT} {U : S_MU} {O : S_MO} {E : S_ME} {r24 : S_ML × S_MN × S_MT} (hr24 : f_Model_aName C X L N T = some r24) : f_Model_act C X L N T U O E 158 = some (r24.1, r24.2.1, r24.2.2, U, O, E) := by
  show (((f_Model_aName C X L N T).bind fun r24 => some (r24.1, r24.2.1, r24.2.2, U, O)) : Option (S_ML × S_MN × S_MT × S_MU × S_MO)).bind (fun r => some (r.1, r.2.1, r.2.2.1, r.2.2.2.1, r.2.2.2.2, E)) = _
  rw [hr24]; rfl
theorem act_word {C : S_MC} {X : S_MX} {L : S_ML} {N : S_MN} {T : S_MT} {U : S_MU} {O : S_MO} {E : S_ME} {a : Int32} {r : S_ML × S_MN} (ha : a < 100) (h : f_Model_pass C X L N a = some r) : f_Model_act C X L N T U O E a = some (r.1, r.2, T, U, O, E) := by
  unfold f_Model_act
  rw [if_neg (Int32.not_le.mpr ha), h]; rfl
end
section
/-! The steps that all rules are made of. -/
theorem upd_id {f : Nat → Int32} {k : Nat} {x : Int32} (h : f k = x) : upd f k x = f := by
  funext j
  unfold upd
  by_cases c : j = k
  · rw [if_pos c, c, h]
  · rw [if_neg c]
theorem setV_id {T : S_MT} {z : Nat} {k p v : Int32} (h : dat T z = (k, p, v)) : setV T z p v = T := by
  unfold dat at h
  injection h with h1 h2
  injection h2 with h2 h3
  unfold setV
  rw [upd_id h2, upd_id h3]
theorem TA.down {B t T len} (h : TA B t T len) (hl : len < 16384) (k p v : Int32) : ∃ T' t' B', f_Model_down T k p v = some T' ∧ f_Tree_add t (Jn B.2.1) k p v = some (Jn len, t') ∧ B'.2.1 = len ∧ B'.2.2.2.2.2.2 = B.2.2.2.2.2.2 ∧ TA B' t' T' (len + 1) ∧
    ∀ t2 T2 len2, TA B' t2 T2 len2 → ∃ T3, f_Model_up T2 = some T3 ∧ TA B t2 T3 len2 := by
  obtain ⟨T', z, a1, a2, a3, a4, a5⟩ := h.downM hl k p v
  obtain ⟨t', B', b1, b2, b3, b4, b5⟩ := a5 p v
  rw [setV_id a4] at b4
  exact ⟨T', t', B', a1, b1, b2, b3, b4, b5⟩
theorem hang_cur {T : S_MT} {a b : Int32} {T' : S_MT} (h : f_Model_hang T a b = some T') : T'.2.1 = T.2.1 := by
  unfold f_Model_hang at h
  have h := (gd_use (gd_use h).2).2
  split at h
  · have h := (gd_use (gd_use h).2).2
    injection h with h
    rw [← h]
  · have h := (gd_use (gd_use (gd_use h).2).2).2
    injection h with h
    rw [← h]
theorem make_cur {T : S_MT} {k p v : Int32} {r : Int32 × S_MT} (h : f_Model_make T k p v = some r) : r.2.2.1 = T.2.1 := by
  unfold f_Model_make at h
  have h := (gd_use (gd_use (gd_use (gd_use (gd_use (gd_use (gd_use h).2).2).2).2).2).2).2
  injection h with h
  rw [← h]
theorem TA.cur {B t T len} (h : TA B t T len) : T.2.1 = Jn B.2.2.2.2.2.1 := by
  obtain ⟨ch, new, D, seg, h1, h2, h3, h4, h5⟩ := h
  exact h4
theorem TA.leaf {B t T len} (h : TA B t T len) (hl : len < 16384) (k p v : Int32) : ∃ T' t', f_Model_leaf T k p v = some T' ∧ f_Tree_add t (Jn B.2.1) k p v = some (Jn len, t') ∧ TA B t' T' (len + 1) := by
  obtain ⟨T', t', B', a1, a2, a3, a3', a4, a5⟩ := h.down hl k p v
  obtain ⟨T3, b1, b2⟩ := a5 t' T' _ a4
  refine ⟨T3, t', ?_, a2, b2⟩
  unfold f_Model_down at a1
  obtain ⟨r1, c1, a1⟩ := ob_use a1
  obtain ⟨r2, c2, a1⟩ := ob_use a1
  injection a1 with a1
  unfold f_Model_leaf
  rw [c1, ob_some, c2, ob_some]
  have e1 := hang_cur c2
  rw [make_cur c1, h.cur] at e1
  have e2 := b2.cur
  unfold f_Model_up at b1
  have b1 := (gd_use b1).2
  rw [← a1] at b1
  injection b1 with b1
  rw [← b1] at e2
  have e3 : T3 = (r2.1, r2.2.1, r2.2.2) := by
    rw [← b1, e1]
    dsimp only at e2 ⊢
    rw [e2]
  rw [e3]
theorem KM_iff {K T a b : Int32} (h : KM K T) (hab : (a, b) ∈ KMT) : (K = a) = (T = b) := by
  have key : ∀ x ∈ KMT, ∀ y ∈ KMT, (x.1 = y.1) = (x.2 = y.2) := by
    have : ∀ x ∈ KMT, ∀ y ∈ KMT, (x.1 = y.1) ↔ (x.2 = y.2) := by decide +kernel
    exact fun x hx y hy => propext (this x hx y hy)
  exact key (K, T) h (a, b) hab
theorem KM_lt {a b : Int32} (h : (a, b) ∈ KMT) : b < 100 := by
  have key : ∀ y ∈ KMT, y.2 < 100 := by decide +kernel
  exact key (a, b) h
theorem KM_n6 {K T : Int32} (h : KM K T) : K ≠ 6 := by
  have key : ∀ p ∈ KMT, p.1 ≠ 6 := by decide +kernel
  exact key (K, T) h
section
variable {C : S_MC} {mX : S_MX} {m : Nat} {ar : Int32} {kd pl vl : Nat → Int32} {Ls : Nat → S_ML × S_MN}
theorem tokF (h : LX C mX m kd pl vl Ls) {i : Nat} (hi : i < m) (h5 : kd i ≠ 5) : KM (kd i) (Ls i).1.2.1 ∧ (Ls i).1.1 = pl i ∧ (Ls i).1.2.2.2.2.2 = (0, -1) ∧ ((kd i = 1 ∨ kd i = 2 ∨ kd i = 3) → (Ls i).1.2.2.1 = vl i) ∧ (0 < i → (Ls i).1.2.2.2.2.1 = pl (i - 1)) := by
  rcases h.2.1 i hi with ⟨a, _⟩ | ⟨_, a⟩
  · exact absurd a h5
  · exact a
theorem tokZ (h : LX C mX m kd pl vl Ls) {i : Nat} (hi : i < m) (h5 : kd i ≠ 5) : (Ls i).1.2.2.2.2.2.1 = 0 := by
  rw [(tokF h hi h5).2.2.1]
theorem nxt (h : LX C mX m kd pl vl Ls) {i : Nat} (hi : i < m) (h5 : kd i ≠ 5) (h4 : kd i ≠ 4) : i + 1 < m := by
  obtain ⟨h1, h2, h3, h6, h7⟩ := h
  apply Classical.byContradiction
  intro c
  have : i = m - 1 := by omega
  subst this
  rcases h6 with x | x
  · exact h4 x
  · exact h5 x
/-- the next token comes to hand on both sides -/
theorem adv (h : LX C mX m kd pl vl Ls) {p : S_Parser} {i sg op : Nat} (hs : SP m kd pl vl p i sg op) (h4 : kd i ≠ 4) :
    ∃ p', f_Parser_take p (Jn m, ar, kd, pl, vl) (kd i) = some p' ∧ f_Model_step C mX (Ls i).1 (Ls i).2 = some (Ls (i + 1)) ∧
      (p'.2.2.1 = pl (i + 1) ∧ p'.2.2.2.1 = vl (i + 1) ∧ i + 1 < m) ∧
      ∀ (s0 : MSt) (T : S_MT) (U : S_MU) (O : S_MO) (E : S_ME) (k : Nat) (c F : Int) (W : Nat → MSt → Prop), RUN C mX k s0 ((Ls (i + 1)).1, (Ls (i + 1)).2, T, U, O, E) → (k : Int) ≤ 30 + c → (k : Int) ≤ 30 + F →
        (SP m kd pl vl p' (i + 1) sg op → W (i + 1) ((Ls (i + 1)).1, (Ls (i + 1)).2, T, U, O, E)) → OK C mX m kd pl vl s0 i c F p' W := by
  obtain ⟨hi, h5, pb, fq, rfl, hpb⟩ := hs
  have hn := nxt h hi h5 h4
  have hm := h.2.2.2.2.2
  have n6 := KM_n6 (tokF h hi h5).1
  refine ⟨(Jn (i + 1), kd (i + 1), pl (i + 1), vl (i + 1), pl i, Jn sg, Jn op, 0, fq), ?_, h.1 i hn, ⟨rfl, rfl, hn⟩, ?_⟩
  · unfold f_Parser_take
    dsimp only
    rw [if_pos rfl, if_neg n6, addL i 1, if_neg J_nneg, if_neg (J_nle hn), if_neg (nleL 8193 (by omega))]
    simp only [gd_Jn (show i + 1 < 8193 by omega) (show 8193 < 2147483648 by omega), nm_eq, Jn_cl (show i + 1 < 2147483648 by omega)]
  · intro s0 T U O E k c F W hr hk hkF hw
    by_cases c5 : kd (i + 1) = 5
    · right
      refine ⟨i + 1, 0, _, k, by omega, hn, by omega, hr, ⟨rfl, Or.inl c5, rfl⟩, ?_⟩
      rcases h.2.1 (i + 1) hn with ⟨a, b, e⟩ | ⟨a, _⟩
      · unfold FL tfl
        rw [if_pos c5]
        exact ⟨e, b⟩
      · exact absurd c5 a
    · left
      exact ⟨i + 1, _, k, by omega, by omega, hr, hw ⟨hn, c5, pl i, fq, rfl, fun _ => rfl⟩⟩
/-- the token at hand can't come -/
theorem wrongOK (h : LX C mX m kd pl vl Ls) {p : S_Parser} {i sg op : Nat} (hs : SP m kd pl vl p i sg op) : f_Model_wrong (Ls i).1 = some ((Ls i).1.1, (Ls i).1.2.1, (Ls i).1.2.2.1, (Ls i).1.2.2.2.1, (Ls i).1.2.2.2.2.1, 6, pl i) ∧
    PD (p.1, 6, p.2.2) i 0 ∧ ∀ (s0 : MSt) (N : S_MN) (T : S_MT) (U : S_MU) (O : S_MO) (E : S_ME) (k : Nat) (c F : Int) (p' : S_Parser) (W : Nat → MSt → Prop), PD p' i 0 → RUN C mX k s0 (((Ls i).1.1, (Ls i).1.2.1, (Ls i).1.2.2.1, (Ls i).1.2.2.2.1, (Ls i).1.2.2.2.2.1, 6, pl i), N, T, U, O, E) → (k : Int) ≤ F → OK C mX m kd pl vl s0 i c F p' W := by
  obtain ⟨hi, h5, pb, fq, rfl, hpb⟩ := hs
  have hf := tokF h hi h5
  refine ⟨?_, ⟨rfl, Or.inr rfl, rfl⟩, ?_⟩
  · unfold f_Model_wrong f_Model_fail
    rw [if_pos (tokZ h hi h5), ob_some, hf.2.1]
  · intro s0 N T U O E k c F p' W hp hr hk
    right
    refine ⟨i, 0, _, k, Nat.le_refl _, hi, by omega, hr, hp, ?_⟩
    unfold FL tfl
    rw [if_neg h5, if_pos rfl]
    exact ⟨rfl, by decide⟩
theorem take_miss {p : S_Parser} {tk : S_Tokens} {a : Int32} (h : ¬ p.2.1 = a) : f_Parser_take p tk a = some (p.1, 6, p.2.2) := by
  unfold f_Parser_take
  rw [if_neg h]
theorem SP.kind {p : S_Parser} {i sg op : Nat} (hs : SP m kd pl vl p i sg op) : p.2.1 = kd i ∧ p.2.2.1 = pl i ∧ p.2.2.2.1 = vl i := by
  obtain ⟨hi, h5, pb, fq, rfl, hpb⟩ := hs
  exact ⟨rfl, rfl, rfl⟩
/-- both at token i, at the same places of their trees -/
def ACC (m : Nat) (kd pl vl : Nat → Int32) (Ls : Nat → S_ML × S_MN) (B : BASE) (E : S_ME) (op : Nat) (ds : List Int32) (b : Int) (p : S_Parser) (t : S_Tree) (i : Nat) (s : MSt) : Prop :=
  SP m kd pl vl p i 0 op ∧ op ≤ 60 ∧ ds.length ≤ 200 + 20 * op ∧ ∃ T U o3 len, s = ((Ls i).1, (Ls i).2, T, U, (Jn op, 0, 0, o3), E) ∧ Stk 4000 U.1 U.2 ds ∧ TA B t T len ∧ (len : Int) ≤ 2 * i + b
theorem ACC.mono {B E op ds b b' p t i s} (h : ACC m kd pl vl Ls B E op ds b p t i s) (hb : b ≤ b') : ACC m kd pl vl Ls B E op ds b' p t i s := by
  obtain ⟨h1, h2, h3, T, U, o3, len, h4, h5, h6, h7⟩ := h
  exact ⟨h1, h2, h3, T, U, o3, len, h4, h5, h6, by omega⟩
/-- a word or a sign that must come -/
theorem pass_acc (h : LX C mX m kd pl vl Ls) {B E op ds b p t i s} {c T' : Int32} (hc : (c, T') ∈ KMT) (h4 : c ≠ 4) (hA : ACC m kd pl vl Ls B E op (T' :: ds) b p t i s) :
    ∃ p', f_Parser_take p (Jn m, ar, kd, pl, vl) c = some p' ∧ OK C mX m kd pl vl s i (-29) 1 p' (ACC m kd pl vl Ls B E op ds (b - 2) p' t) := by
  obtain ⟨hs, h2, h3, T, U, o3, len, rfl, hU, h6, h7⟩ := hA
  rw [List.length_cons] at h3
  obtain ⟨hi, h5, _⟩ := id hs
  have hf := tokF h hi h5
  have hz := tokZ h hi h5
  have hk := KM_iff hf.1 hc
  by_cases e : kd i = c
  · subst e
    obtain ⟨p', a1, a2, a2', a3⟩ := adv (ar := ar) h hs h4
    refine ⟨p', a1, ?_⟩
    have et : (Ls i).1.2.1 = T' := by rw [← hk]
    have hp : f_Model_pass C mX (Ls i).1 (Ls i).2 T' = some (Ls (i + 1)) := by
      unfold f_Model_pass
      rw [if_pos et, a2]; rfl
    refine a3 _ T (Jn ds.length, U.2) (Jn op, 0, 0, o3) E 1 (-29) 1 _ (RUN.one hz hU (act_word (KM_lt hc) hp)) (by omega) (by omega) ?_
    intro hs'
    exact ⟨hs', h2, by omega, T, _, o3, len, rfl, hU.pop.2.2, h6, by omega⟩
  · have et : ¬ (Ls i).1.2.1 = T' := by rw [← hk]; exact e
    obtain ⟨w1, w2, w3⟩ := wrongOK h hs
    have hp : f_Model_pass C mX (Ls i).1 (Ls i).2 T' = some (((Ls i).1.1, (Ls i).1.2.1, (Ls i).1.2.2.1, (Ls i).1.2.2.2.1, (Ls i).1.2.2.2.2.1, 6, pl i), (Ls i).2) := by
      unfold f_Model_pass
      rw [if_neg et, w1]; rfl
    exact ⟨_, take_miss (by rw [hs.kind.1]; exact e), w3 _ _ T (Jn ds.length, U.2) (Jn op, 0, 0, o3) E 1 (-29) 1 _ _ w2 (RUN.one hz hU (act_word (KM_lt hc) hp)) (by omega)⟩
end
end
section
/-! Rules without a rule in them. -/
section
variable {C : S_MC} {mX : S_MX} {m : Nat} {ar : Int32} {kd pl vl : Nat → Int32} {Ls : Nat → S_ML × S_MN}
theorem len_ok (h : LX C mX m kd pl vl Ls) {i len : Nat} {b : Int} (hi : i < m) (hb : b ≤ 10) (h7 : (len : Int) ≤ 2 * i + b) : len < 16384 := by
  have := h.2.2.2.2.2
  omega
/-- a leaf, and the token at hand is taken -/
theorem leafAdv (h : LX C mX m kd pl vl Ls) {B E op ds ds' b p t i s} {x : Int32} (hA : ACC m kd pl vl Ls B E op (x :: ds) b p t i s) (h4 : kd i ≠ 4) (hb : b ≤ 10) (hds : ds'.length ≤ 200 + 20 * op) (k v : Int32)
    (hact : ∀ T T' U o3, Stk 4000 U.1 U.2 ds → f_Model_leaf T k (pl i) v = some T' → f_Model_step C mX (Ls i).1 (Ls i).2 = some (Ls (i + 1)) → ∃ U', f_Model_act C mX (Ls i).1 (Ls i).2 T U (Jn op, 0, 0, o3) E x = some ((Ls (i + 1)).1, (Ls (i + 1)).2, T', U', (Jn op, 0, 0, o3), E) ∧ Stk 4000 U'.1 U'.2 ds') :
    ∃ n t' p', f_Tree_add t (Jn B.2.1) k (pl i) v = some (n, t') ∧ f_Parser_take p (Jn m, ar, kd, pl, vl) (kd i) = some p' ∧ OK C mX m kd pl vl s i (-29) 1 p' (ACC m kd pl vl Ls B E op ds' (b - 1) p' t') := by
  obtain ⟨hs, h2, h3, T, U, o3, len, rfl, hU, h6, h7⟩ := hA
  obtain ⟨hi, h5, _⟩ := id hs
  obtain ⟨T', t', l1, l2, l3⟩ := h6.leaf (len_ok h hi hb h7) k (pl i) v
  obtain ⟨p', a1, a2, a2', a3⟩ := adv (ar := ar) h hs h4
  obtain ⟨U', u1, u2⟩ := hact T T' (Jn ds.length, U.2) o3 hU.pop.2.2 l1 a2
  refine ⟨_, t', p', l2, a1, ?_⟩
  · refine a3 _ T' U' (Jn op, 0, 0, o3) E 1 (-29) 1 _ (RUN.one (tokZ h hi h5) hU u1) (by omega) (by omega) ?_
    intro hs'
    exact ⟨hs', h2, hds, T', _, o3, len + 1, rfl, u2, l3, by omega⟩
/-- the token at hand can't come -/
theorem wrongAct (h : LX C mX m kd pl vl Ls) {B E op ds b p t i s} {x : Int32} (hA : ACC m kd pl vl Ls B E op (x :: ds) b p t i s) {W : Nat → MSt → Prop}
    (hact : ∀ T U o3 w, f_Model_wrong (Ls i).1 = some w → f_Model_act C mX (Ls i).1 (Ls i).2 T U (Jn op, 0, 0, o3) E x = some (w, (Ls i).2, T, U, (Jn op, 0, 0, o3), E)) : OK C mX m kd pl vl s i (-29) 1 (p.1, 6, p.2.2) W := by
  obtain ⟨hs, h2, h3, T, U, o3, len, rfl, hU, h6, h7⟩ := hA
  obtain ⟨hi, h5, _⟩ := id hs
  obtain ⟨w1, w2, w3⟩ := wrongOK h hs
  exact w3 _ _ T (Jn ds.length, U.2) (Jn op, 0, 0, o3) E 1 (-29) 1 _ _ w2 (RUN.one (tokZ h hi h5) hU (hact T _ o3 _ w1)) (by omega)
theorem KM_type {K T : Int32} (h : KM K T) : ((K = 267 ∨ K = 268 ∨ K = 269) ∧ ¬ T < 11 ∧ ¬ 13 < T ∧ K - 267 = T - 11) ∨ (¬ (K = 267 ∨ K = 268 ∨ K = 269) ∧ (T < 11 ∨ 13 < T)) := by
  have key : ∀ p ∈ KMT, ((p.1 = 267 ∨ p.1 = 268 ∨ p.1 = 269) ∧ ¬ p.2 < 11 ∧ ¬ 13 < p.2 ∧ p.1 - 267 = p.2 - 11) ∨ (¬ (p.1 = 267 ∨ p.1 = 268 ∨ p.1 = 269) ∧ (p.2 < 11 ∨ 13 < p.2)) := by decide +kernel
  exact key (K, T) h
theorem simple_acc (h : LX C mX m kd pl vl Ls) {B E op ds b p t i s} (hb : b ≤ 10) (hA : ACC m kd pl vl Ls B E op (104 :: ds) b p t i s) :
    ∃ r, f_Parser_simpleType p (Jn m, ar, kd, pl, vl) t (Jn B.2.1) = some r ∧ OK C mX m kd pl vl s i (-29) 1 r.1 (ACC m kd pl vl Ls B E op ds (b - 1) r.1 r.2) := by
  obtain ⟨hs, h2, h3, _⟩ := id hA
  obtain ⟨hi, h5, _⟩ := id hs
  have hf := tokF h hi h5
  obtain ⟨k1, k2, k3⟩ := hs.kind
  rw [List.length_cons] at h3
  unfold f_Parser_simpleType
  rw [k1, k2]
  rcases KM_type hf.1 with ⟨c1, c2, c3, c4⟩ | ⟨c1, c2⟩
  · have h4 : kd i ≠ 4 := by rcases c1 with e | e | e <;> rw [e] <;> decide
    obtain ⟨n', t', p', a1, a2, a3⟩ := leafAdv (ar := ar) h hA h4 hb (ds' := ds) (by omega) 8 (kd i - 267) (by
      intro T T' U o3 hU hl hst
      refine ⟨U, ?_, hU⟩
      apply act_104 (r10 := ((Ls (i + 1)).1, (Ls (i + 1)).2, T'))
      unfold f_Model_simple
      rw [if_neg c2, if_neg c3, hf.2.1, ← c4, hl, ob_some, hst]; rfl)
    have res : ∃ r, ((f_Tree_add t (Jn B.2.1) 8 (pl i) (kd i - 267)).bind fun r2 => (f_Parser_take p (Jn m, ar, kd, pl, vl) (kd i)).bind fun r3 => some (r3, r2.2)) = some r ∧ OK C mX m kd pl vl s i (-29) 1 r.1 (ACC m kd pl vl Ls B E op ds (b - 1) r.1 r.2) := by
      rw [a1, ob_some, a2, ob_some]; exact ⟨_, rfl, a3⟩
    by_cases d1 : kd i = 267
    · rw [if_pos d1]; exact res
    · rw [if_neg d1]
      by_cases d2 : kd i = 268
      · rw [if_pos d2]; exact res
      · rw [if_neg d2, if_pos ((c1.resolve_left d1).resolve_left d2)]; exact res
  · rw [if_neg (fun e => c1 (Or.inl e)), if_neg (fun e => c1 (Or.inr (Or.inl e))), if_neg (fun e => c1 (Or.inr (Or.inr e)))]
    refine ⟨_, rfl, ?_⟩
    dsimp only
    have := wrongAct h hA (W := ACC m kd pl vl Ls B E op ds (b - 1) (p.1, 6, p.2.2) t) (by
      intro T U o3 w hw
      apply act_104 (r10 := (w, (Ls i).2, T))
      unfold f_Model_simple
      by_cases c3 : (Ls i).1.2.1 < 11
      · rw [if_pos c3, hw]; rfl
      · rw [if_neg c3, if_pos (c2.resolve_left c3), hw]; rfl)
    rw [k2] at *
    exact this
/-- a leaf of the token at hand, which must be of a kind -/
theorem leafPass (h : LX C mX m kd pl vl Ls) {B E op ds ds' b p t i s} {x : Int32} (hA : ACC m kd pl vl Ls B E op (x :: ds) b p t i s) (hb : b ≤ 10) (hds : ds'.length ≤ 200 + 20 * op) (k c T' : Int32) (hc : (c, T') ∈ KMT) (hc3 : c = 1 ∨ c = 2 ∨ c = 3)
    (hact : ∀ T T1 U o3 r, Stk 4000 U.1 U.2 ds → f_Model_leaf T k (pl i) (Ls i).1.2.2.1 = some T1 → f_Model_pass C mX (Ls i).1 (Ls i).2 T' = some r → ∃ U', f_Model_act C mX (Ls i).1 (Ls i).2 T U (Jn op, 0, 0, o3) E x = some (r.1, r.2, T1, U', (Jn op, 0, 0, o3), E) ∧ Stk 4000 U'.1 U'.2 ds') :
    ∃ r, ((f_Tree_add t (Jn B.2.1) k p.2.2.1 p.2.2.2.1).bind fun r1 => (f_Parser_take p (Jn m, ar, kd, pl, vl) c).bind fun r2 => some (r2, r1.2)) = some r ∧ OK C mX m kd pl vl s i (-29) 1 r.1 (ACC m kd pl vl Ls B E op ds' (b - 1) r.1 r.2) := by
  obtain ⟨hs, h2, h3, T, U, o3, len, rfl, hU, h6, h7⟩ := id hA
  obtain ⟨hi, h5, _⟩ := id hs
  have hf := tokF h hi h5
  have hk := KM_iff hf.1 hc
  obtain ⟨k1, k2, k3⟩ := hs.kind
  rw [k2, k3]
  by_cases e : kd i = c
  · have h4 : kd i ≠ 4 := by rw [e]; rcases hc3 with x | x | x <;> rw [x] <;> decide
    have hw := hf.2.2.2.1 (by rw [e]; exact hc3)
    obtain ⟨n', t', p', a1, a2, a3⟩ := leafAdv (ar := ar) h hA h4 hb hds k (vl i) (by
      intro T T1 U o3 hU hl hst
      rw [hw] at hact
      refine hact T T1 U o3 (Ls (i + 1)) hU hl ?_
      unfold f_Model_pass
      rw [if_pos (by rw [← hk]; exact e), hst]; rfl)
    rw [← e, a1, ob_some, a2, ob_some]
    exact ⟨_, rfl, a3⟩
  · obtain ⟨T1, t1, l1, l2, l3⟩ := h6.leaf (len_ok h hi hb h7) k (pl i) (Ls i).1.2.2.1
    obtain ⟨n', t', a1⟩ := add_tot t (Jn B.2.1) k (pl i) (vl i)
    rw [a1, ob_some, take_miss (by rw [k1]; exact e), ob_some]
    refine ⟨_, rfl, ?_⟩
    obtain ⟨w1, w2, w3⟩ := wrongOK h hs
    obtain ⟨U', u1, u2⟩ := hact T T1 (Jn ds.length, U.2) o3 (((Ls i).1.1, (Ls i).1.2.1, (Ls i).1.2.2.1, (Ls i).1.2.2.2.1, (Ls i).1.2.2.2.2.1, 6, pl i), (Ls i).2) hU.pop.2.2 l1 (by
      unfold f_Model_pass
      rw [if_neg (by rw [← hk]; exact e), w1]; rfl)
    exact w3 _ _ T1 U' (Jn op, 0, 0, o3) E 1 (-29) 1 _ _ w2 (RUN.one (tokZ h hi h5) hU u1) (by omega)
theorem aName_eq {L : S_ML} {N : S_MN} {T T1 : S_MT} {r : S_ML × S_MN} (h1 : f_Model_leaf T 6 L.1 L.2.2.1 = some T1) (h2 : f_Model_pass C mX L N 80 = some r) : f_Model_aName C mX L N T = some (r.1, r.2, T1) := by
  unfold f_Model_aName
  rw [h1, ob_some, h2]; rfl
theorem nameNode_acc (h : LX C mX m kd pl vl Ls) {B E op ds b p t i s} (hb : b ≤ 10) (hA : ACC m kd pl vl Ls B E op (158 :: ds) b p t i s) :
    ∃ r, f_Parser_nameNode p (Jn m, ar, kd, pl, vl) t (Jn B.2.1) = some r ∧ OK C mX m kd pl vl s i (-29) 1 r.1 (ACC m kd pl vl Ls B E op ds (b - 1) r.1 r.2) := by
  obtain ⟨hs, h2, h3, _⟩ := id hA
  obtain ⟨hi, h5, _⟩ := id hs
  have hf := tokF h hi h5
  rw [List.length_cons] at h3
  unfold f_Parser_nameNode
  exact leafPass h hA hb (by omega) 6 1 80 (by decide) (Or.inl rfl) (by
    intro T T1 U o3 r hU hl hp
    refine ⟨U, ?_, hU⟩
    exact act_158 (aName_eq (by rw [hf.2.1]; exact hl) hp))
theorem names1_acc (h : LX C mX m kd pl vl Ls) {B E op ds b p t i s} (hb : b ≤ 10) (hA : ACC m kd pl vl Ls B E op (107 :: ds) b p t i s) :
    ∃ r, f_Parser_nameNode p (Jn m, ar, kd, pl, vl) t (Jn B.2.1) = some r ∧ OK C mX m kd pl vl s i (-29) 1 r.1 (ACC m kd pl vl Ls B E op (111 :: ds) (b - 1) r.1 r.2) := by
  obtain ⟨hs, h2, h3, _⟩ := id hA
  obtain ⟨hi, h5, _⟩ := id hs
  have hf := tokF h hi h5
  rw [List.length_cons] at h3
  unfold f_Parser_nameNode
  exact leafPass h hA hb (by rw [List.length_cons]; omega) 6 1 80 (by decide) (Or.inl rfl) (by
    intro T T1 U o3 r hU hl hp
    obtain ⟨U', u1, u2⟩ := push_ok hU (by omega) 111
    exact ⟨U', act_107 u1 (aName_eq (by rw [hf.2.1]; exact hl) hp), u2⟩)
/-- something that may come, behind a word or sign -/
theorem perhapsNo (h : LX C mX m kd pl vl Ls) {B E op ds b p t i s} {x : Int32} (hA : ACC m kd pl vl Ls B E op (x :: ds) b p t i s)
    (hact : ∀ T U o3, f_Model_act C mX (Ls i).1 (Ls i).2 T U (Jn op, 0, 0, o3) E x = some ((Ls i).1, (Ls i).2, T, U, (Jn op, 0, 0, o3), E)) : OK C mX m kd pl vl s i 1 0 p (ACC m kd pl vl Ls B E op ds b p t) := by
  obtain ⟨hs, h2, h3, T, U, o3, len, rfl, hU, h6, h7⟩ := id hA
  obtain ⟨hi, h5, _⟩ := id hs
  rw [List.length_cons] at h3
  exact Or.inl ⟨i, _, 1, Nat.le_refl _, by omega, RUN.one (tokZ h hi h5) hU (hact T _ o3), hs, h2, by omega, T, _, o3, len, rfl, hU.pop.2.2, h6, h7⟩
theorem perhapsYes (h : LX C mX m kd pl vl Ls) {B E op ds ds' b p t i s} {x : Int32} (hA : ACC m kd pl vl Ls B E op (x :: ds) b p t i s) (h4 : kd i ≠ 4) (hds : ds'.length ≤ 200 + 20 * op)
    (hact : ∀ T U o3, Stk 4000 U.1 U.2 ds → f_Model_step C mX (Ls i).1 (Ls i).2 = some (Ls (i + 1)) → ∃ U', f_Model_act C mX (Ls i).1 (Ls i).2 T U (Jn op, 0, 0, o3) E x = some ((Ls (i + 1)).1, (Ls (i + 1)).2, T, U', (Jn op, 0, 0, o3), E) ∧ Stk 4000 U'.1 U'.2 ds') :
    ∃ p', f_Parser_take p (Jn m, ar, kd, pl, vl) (kd i) = some p' ∧ OK C mX m kd pl vl s i (-29) 1 p' (ACC m kd pl vl Ls B E op ds' (b - 2) p' t) := by
  obtain ⟨hs, h2, h3, T, U, o3, len, rfl, hU, h6, h7⟩ := id hA
  obtain ⟨hi, h5, _⟩ := id hs
  obtain ⟨p', a1, a2, a2', a3⟩ := adv (ar := ar) h hs h4
  obtain ⟨U', u1, u2⟩ := hact T (Jn ds.length, U.2) o3 hU.pop.2.2 a2
  refine ⟨p', a1, a3 _ T U' (Jn op, 0, 0, o3) E 1 (-29) 1 _ (RUN.one (tokZ h hi h5) hU u1) (by omega) (by omega) ?_⟩
  intro hs'
  exact ⟨hs', h2, hds, T, _, o3, len, rfl, u2, h6, by omega⟩
/-- the reference's perhaps(), with one symbol more -/
theorem perhaps_no {L : S_ML} {N : S_MN} {U : S_MU} {w a f : Int32} (h : ¬ L.2.1 = w) : f_Model_perhaps C mX L N U w a f = some (L, N, U) := by
  unfold f_Model_perhaps
  rw [if_neg h]
theorem perhaps_one {L : S_ML} {N : S_MN} {U U' : S_MU} {w f : Int32} {r : S_ML × S_MN} (h : L.2.1 = w) (hs : f_Model_step C mX L N = some r) (hp : f_Model_push U f = some U') : f_Model_perhaps C mX L N U w (-1) f = some (r.1, r.2, U') := by
  unfold f_Model_perhaps
  rw [if_pos h, hs, ob_some, if_pos rfl, hp]; rfl
theorem perhaps_two {L : S_ML} {N : S_MN} {U U1 U' : S_MU} {w a f : Int32} {r : S_ML × S_MN} (h : L.2.1 = w) (ha : a ≠ -1) (hs : f_Model_step C mX L N = some r) (h1 : f_Model_push U a = some U1) (hp : f_Model_push U1 f = some U') : f_Model_perhaps C mX L N U w a f = some (r.1, r.2, U') := by
  unfold f_Model_perhaps
  rw [if_pos h, hs, ob_some, if_neg ha, h1, ob_some, hp]; rfl
end
end
section
/-! Constants, types, declarations, sections. -/
section
variable {C : S_MC} {mX : S_MX} {m : Nat} {ar : Int32} {kd pl vl : Nat → Int32} {Ls : Nat → S_ML × S_MN}
theorem const_num {L : S_ML} {N : S_MN} {T T1 : S_MT} {U : S_MU} {O : S_MO} {r : S_ML × S_MN} (h0 : L.2.1 = 81) (h1 : f_Model_leaf T 30 L.1 L.2.2.1 = some T1) (h2 : f_Model_step C mX L N = some r) : f_Model_constant C mX L N T U O = some (r.1, r.2, T1, U, O) := by
  unfold f_Model_constant
  rw [h0, if_neg (by decide), if_pos rfl, h1, ob_some, h2]; rfl
theorem const_true {L : S_ML} {N : S_MN} {T T1 : S_MT} {U : S_MU} {O : S_MO} {r : S_ML × S_MN} (h0 : L.2.1 = 35) (h1 : f_Model_leaf T 31 L.1 1 = some T1) (h2 : f_Model_step C mX L N = some r) : f_Model_constant C mX L N T U O = some (r.1, r.2, T1, U, O) := by
  unfold f_Model_constant
  rw [h0, if_neg (by decide), if_neg (by decide), if_pos rfl, if_pos rfl, h1, ob_some, h2]; rfl
theorem const_false {L : S_ML} {N : S_MN} {T T1 : S_MT} {U : S_MU} {O : S_MO} {r : S_ML × S_MN} (h0 : L.2.1 = 36) (h1 : f_Model_leaf T 31 L.1 0 = some T1) (h2 : f_Model_step C mX L N = some r) : f_Model_constant C mX L N T U O = some (r.1, r.2, T1, U, O) := by
  unfold f_Model_constant
  rw [h0, if_neg (by decide), if_neg (by decide), if_neg (by decide), if_pos rfl, if_neg (by decide), h1, ob_some, h2]; rfl
theorem const_minus {L : S_ML} {N : S_MN} {T : S_MT} {U U' : S_MU} {O : S_MO} {r : S_ML × S_MN} (h0 : L.2.1 = 64) (h2 : f_Model_step C mX L N = some r) (h1 : f_Model_push U 114 = some U') : f_Model_constant C mX L N T U O = some (r.1, r.2, T, U', (O.1, O.2.1, O.2.2.1, O.2.2.2.1, O.2.2.2.2.1, L.1)) := by
  unfold f_Model_constant
  rw [h0, if_pos rfl, h2, ob_some, h1]; rfl
theorem const_wrong {L w : S_ML} {N : S_MN} {T : S_MT} {U : S_MU} {O : S_MO} (h1 : ¬ L.2.1 = 64) (h2 : ¬ L.2.1 = 81) (h3 : ¬ L.2.1 = 35) (h4 : ¬ L.2.1 = 36) (h : f_Model_wrong L = some w) : f_Model_constant C mX L N T U O = some (w, N, T, U, O) := by
  unfold f_Model_constant
  rw [if_neg h1, if_neg h2, if_neg h3, if_neg h4, h]; rfl
/-- less a number -/
theorem less_acc (h : LX C mX m kd pl vl Ls) {B E op ds b p t i s} {mp : Int32} (hb : b ≤ 10) (hA : ACC m kd pl vl Ls B E op (114 :: ds) b p t i s) (hmp : s.2.2.2.2.1.2.2.2.2.2 = mp) :
    ∃ r, ((f_Tree_add t (Jn B.2.1) 30 mp (-p.2.2.2.1)).bind fun r4 => (f_Parser_take p (Jn m, ar, kd, pl, vl) 2).bind fun r5 => some (r5, r4.2)) = some r ∧ OK C mX m kd pl vl s i (-29) 1 r.1 (ACC m kd pl vl Ls B E op ds (b - 1) r.1 r.2) := by
  obtain ⟨hs, h2, h3, T, U, o3, len, rfl, hU, h6, h7⟩ := id hA
  obtain ⟨hi, h5, _⟩ := id hs
  have hf := tokF h hi h5
  have hk := KM_iff hf.1 (show ((2 : Int32), (81 : Int32)) ∈ KMT by decide)
  obtain ⟨k1, k2, k3⟩ := hs.kind
  rw [List.length_cons] at h3
  dsimp only at hmp
  rw [k3]
  by_cases e : kd i = 2
  · have h4 : kd i ≠ 4 := by rw [e]; decide
    have hw := hf.2.2.2.1 (by rw [e]; exact Or.inr (Or.inl rfl))
    obtain ⟨T1, t1, l1, l2, l3⟩ := h6.leaf (len_ok h hi hb h7) 30 mp (-vl i)
    obtain ⟨p', a1, a2, a2', a3⟩ := adv (ar := ar) h hs h4
    rw [e] at a1
    rw [l2, ob_some, a1, ob_some]
    refine ⟨_, rfl, ?_⟩
    refine a3 _ T1 (Jn ds.length, U.2) (Jn op, 0, 0, o3) E 1 (-29) 1 _ (RUN.one (tokZ h hi h5) hU (act_114 (r31 := ((Ls (i + 1)).1, (Ls (i + 1)).2, T1)) ?_)) (by omega) (by omega) ?_
    · unfold f_Model_lessNumber f_Model_pass
      dsimp only
      rw [hmp, hw, l1, ob_some, if_pos (by rw [← hk]; exact e), a2]; rfl
    · intro hs'
      exact ⟨hs', h2, by omega, T1, _, o3, len + 1, rfl, hU.pop.2.2, l3, by omega⟩
  · obtain ⟨T1, t1, l1, l2, l3⟩ := h6.leaf (len_ok h hi hb h7) 30 mp (-(Ls i).1.2.2.1)
    obtain ⟨n', t', a1⟩ := add_tot t (Jn B.2.1) 30 mp (-vl i)
    rw [a1, ob_some, take_miss (by rw [k1]; exact e), ob_some]
    refine ⟨_, rfl, ?_⟩
    obtain ⟨w1, w2, w3⟩ := wrongOK h hs
    refine w3 _ (Ls i).2 T1 (Jn ds.length, U.2) (Jn op, 0, 0, o3) E 1 (-29) 1 _ _ w2 (RUN.one (tokZ h hi h5) hU (act_114 (r31 := (((Ls i).1.1, (Ls i).1.2.1, (Ls i).1.2.2.1, (Ls i).1.2.2.2.1, (Ls i).1.2.2.2.2.1, 6, pl i), (Ls i).2, T1)) ?_)) (by omega)
    unfold f_Model_lessNumber f_Model_pass
    dsimp only
    rw [hmp, l1, ob_some, if_neg (by rw [← hk]; exact e), w1]; rfl
theorem constant_acc (h : LX C mX m kd pl vl Ls) {B E op ds b p t i s} (hb : b ≤ 10) (hA : ACC m kd pl vl Ls B E op (113 :: ds) b p t i s) :
    ∃ r, f_Parser_constant p (Jn m, ar, kd, pl, vl) t (Jn B.2.1) = some r ∧ OK C mX m kd pl vl s i (-29) 2 r.1 (ACC m kd pl vl Ls B E op ds (b - 1) r.1 r.2) := by
  obtain ⟨hs, h2, h3, T, U, o3, len, e0, hU, h6, h7⟩ := id hA
  obtain ⟨hi, h5, _⟩ := id hs
  have hf := tokF h hi h5
  have q64 := KM_iff hf.1 (show ((45 : Int32), (64 : Int32)) ∈ KMT by decide)
  have q81 := KM_iff hf.1 (show ((2 : Int32), (81 : Int32)) ∈ KMT by decide)
  have q35 := KM_iff hf.1 (show ((291 : Int32), (35 : Int32)) ∈ KMT by decide)
  have q36 := KM_iff hf.1 (show ((292 : Int32), (36 : Int32)) ∈ KMT by decide)
  obtain ⟨k1, k2, k3⟩ := hs.kind
  rw [List.length_cons] at h3
  unfold f_Parser_constant
  rw [k1, k2]
  by_cases c45 : kd i = 45
  · rw [if_pos c45]
    have h4 : kd i ≠ 4 := by rw [c45]; decide
    obtain ⟨p', a1, a2, a2', a3⟩ := adv (ar := ar) h hs h4
    obtain ⟨U', u1, u2⟩ := push_ok (U := (Jn ds.length, U.2)) hU.pop.2.2 (by omega) 114
    have hrun : RUN C mX 1 s ((Ls (i + 1)).1, (Ls (i + 1)).2, T, U', (Jn op, 0, 0, o3.1, o3.2.1, (Ls i).1.1), E) := by
      rw [e0]
      exact RUN.one (tokZ h hi h5) hU (act_113 (const_minus (by rw [← q64]; exact c45) a2 u1))
    have first := a3 s T U' (Jn op, 0, 0, o3.1, o3.2.1, (Ls i).1.1) E 1 (-29) 1 (fun i' s' => ACC m kd pl vl Ls B E op (114 :: ds) (b - 2) p' t i' s' ∧ s'.2.2.2.2.1.2.2.2.2.2 = pl i) hrun (by omega) (by omega) (by
      intro hs'
      exact ⟨⟨hs', h2, by rw [List.length_cons]; omega, T, U', _, len, rfl, u2, h6, by omega⟩, hf.2.1⟩)
    rw [c45] at a1
    rw [a1, ob_some]
    obtain ⟨r, e1, e2⟩ := OK.seq (pr := fun r : S_Parser × S_Tree => r.1) (W' := fun r => ACC m kd pl vl Ls B E op ds (b - 1) r.1 r.2) (c' := -29) (F' := 1) first (fun i' s' _ hw => by
      obtain ⟨r, x1, x2⟩ := less_acc (ar := ar) h (by omega) hw.1 hw.2
      exact ⟨r, x1, x2.mono (Int.le_refl _) (Int.le_refl _) (fun _ _ _ z => z.mono (by omega))⟩) (fun i' td hd => dma fun r4 => dmb (dm_take hd _ 2 (by decide)) fun r5 h5 => ⟨_, rfl, h5⟩)
    exact ⟨r, e1, e2.mono (by omega) (by omega) (fun _ _ _ z => z)⟩
  · rw [if_neg c45]
    have n64 : ¬ (Ls i).1.2.1 = 64 := by rw [← q64]; exact c45
    unfold f_Parser_literal
    rw [k1, k2, k3]
    have fin : ∀ (k v : Int32), kd i ≠ 4 → (∀ T T' U o3, Stk 4000 U.1 U.2 ds → f_Model_leaf T k (pl i) v = some T' → f_Model_step C mX (Ls i).1 (Ls i).2 = some (Ls (i + 1)) → ∃ U', f_Model_act C mX (Ls i).1 (Ls i).2 T U (Jn op, 0, 0, o3) E 113 = some ((Ls (i + 1)).1, (Ls (i + 1)).2, T', U', (Jn op, 0, 0, o3), E) ∧ Stk 4000 U'.1 U'.2 ds) →
        ∃ r, (((f_Tree_add t (Jn B.2.1) k (pl i) v).bind fun r14 => (f_Parser_take p (Jn m, ar, kd, pl, vl) (kd i)).bind fun r15 => some (r15, r14.2)).bind fun r2 => some (r2.1, r2.2)) = some r ∧ OK C mX m kd pl vl s i (-29) 2 r.1 (ACC m kd pl vl Ls B E op ds (b - 1) r.1 r.2) := by
      intro k v h4 hact
      obtain ⟨n', t', p', a1, a2, a3⟩ := leafAdv (ar := ar) h hA h4 hb (ds' := ds) (by omega) k v hact
      rw [a1, ob_some, a2, ob_some]
      exact ⟨_, rfl, a3.mono (by omega) (by omega) (fun _ _ _ z => z)⟩
    by_cases c2 : kd i = 2
    · rw [if_pos c2]
      have := fin 30 (vl i) (by rw [c2]; decide) (by
        intro T T' U o3 hU hl hst
        refine ⟨U, act_113 (const_num (by rw [← q81]; exact c2) ?_ hst), hU⟩
        rw [hf.2.1, hf.2.2.2.1 (Or.inr (Or.inl c2))]; exact hl)
      rw [c2] at this; exact this
    · rw [if_neg c2]
      by_cases c3 : kd i = 291
      · rw [if_pos c3, if_pos c3]
        exact fin 31 1 (by rw [c3]; decide) (by
          intro T T' U o3 hU hl hst
          refine ⟨U, act_113 (const_true (by rw [← q35]; exact c3) ?_ hst), hU⟩
          rw [hf.2.1]; exact hl)
      · rw [if_neg c3]
        by_cases c4 : kd i = 292
        · rw [if_pos c4, if_neg c3]
          exact fin 31 0 (by rw [c4]; decide) (by
            intro T T' U o3 hU hl hst
            refine ⟨U, act_113 (const_false (by rw [← q36]; exact c4) ?_ hst), hU⟩
            rw [hf.2.1]; exact hl)
        · rw [if_neg c4, ob_some]
          refine ⟨_, rfl, ?_⟩
          have := wrongAct h hA (W := ACC m kd pl vl Ls B E op ds (b - 1) (p.1, 6, p.2.2) t) (by
            intro T U o3 w hw
            exact act_113 (const_wrong n64 (by rw [← q81]; exact c2) (by rw [← q35]; exact c3) (by rw [← q36]; exact c4) hw))
          exact this.mono (by omega) (by omega) (fun _ _ _ z => z)
end
end
section
/-! Nodes with nodes below them; types, declarations, sections. -/
/-- what is known of a node when it is left -/
def CL (B B' : BASE) : Prop := B'.2.2.2.2.2.2 = B.2.2.2.2.2.2 ∧ ∀ t2 T2 len2, TA B' t2 T2 len2 → ∃ T3, f_Model_up T2 = some T3 ∧ TA B t2 T3 len2
section
variable {C : S_MC} {mX : S_MX} {m : Nat} {ar : Int32} {kd pl vl : Nat → Int32} {Ls : Nat → S_ML × S_MN}
theorem downAdv (h : LX C mX m kd pl vl Ls) {B E op ds ds' b p t i s} {x : Int32} (hA : ACC m kd pl vl Ls B E op (x :: ds) b p t i s) (h4 : kd i ≠ 4) (hb : b ≤ 10) (hds : ds'.length ≤ 200 + 20 * op) (k v : Int32)
    (hact : ∀ T T' U o3, Stk 4000 U.1 U.2 ds → f_Model_down T k (pl i) v = some T' → f_Model_step C mX (Ls i).1 (Ls i).2 = some (Ls (i + 1)) → ∃ U', f_Model_act C mX (Ls i).1 (Ls i).2 T U (Jn op, 0, 0, o3) E x = some ((Ls (i + 1)).1, (Ls (i + 1)).2, T', U', (Jn op, 0, 0, o3), E) ∧ Stk 4000 U'.1 U'.2 ds') :
    ∃ t' p' B', f_Tree_add t (Jn B.2.1) k (pl i) v = some (Jn B'.2.1, t') ∧ f_Parser_take p (Jn m, ar, kd, pl, vl) (kd i) = some p' ∧ CL B B' ∧ OK C mX m kd pl vl s i (-29) 1 p' (ACC m kd pl vl Ls B' E op ds' (b - 1) p' t') := by
  obtain ⟨hs, h2, h3, T, U, o3, len, rfl, hU, h6, h7⟩ := hA
  obtain ⟨hi, h5, _⟩ := id hs
  obtain ⟨T', t', B', l1, l2, l3, l3', l4, l5⟩ := h6.down (len_ok h hi hb h7) k (pl i) v
  obtain ⟨p', a1, a2, a2', a3⟩ := adv (ar := ar) h hs h4
  obtain ⟨U', u1, u2⟩ := hact T T' (Jn ds.length, U.2) o3 hU.pop.2.2 l1 a2
  refine ⟨t', p', B', by rw [l3]; exact l2, a1, ⟨l3', l5⟩, ?_⟩
  refine a3 _ T' U' (Jn op, 0, 0, o3) E 1 (-29) 1 _ (RUN.one (tokZ h hi h5) hU u1) (by omega) (by omega) ?_
  intro hs'
  exact ⟨hs', h2, hds, T', _, o3, len + 1, rfl, u2, l4, by omega⟩
theorem downStay (h : LX C mX m kd pl vl Ls) {B E op ds ds' b p t i s} {x : Int32} (hA : ACC m kd pl vl Ls B E op (x :: ds) b p t i s) (hb : b ≤ 10) (hds : ds'.length ≤ 200 + 20 * op) (k P v : Int32)
    (hact : ∀ T T' U o3, Stk 4000 U.1 U.2 ds → f_Model_down T k P v = some T' → ∃ U', f_Model_act C mX (Ls i).1 (Ls i).2 T U (Jn op, 0, 0, o3) E x = some ((Ls i).1, (Ls i).2, T', U', (Jn op, 0, 0, o3), E) ∧ Stk 4000 U'.1 U'.2 ds') :
    ∃ t' B', f_Tree_add t (Jn B.2.1) k P v = some (Jn B'.2.1, t') ∧ CL B B' ∧ OK C mX m kd pl vl s i 1 0 p (ACC m kd pl vl Ls B' E op ds' (b + 1) p t') := by
  obtain ⟨hs, h2, h3, T, U, o3, len, rfl, hU, h6, h7⟩ := hA
  obtain ⟨hi, h5, _⟩ := id hs
  obtain ⟨T', t', B', l1, l2, l3, l3', l4, l5⟩ := h6.down (len_ok h hi hb h7) k P v
  obtain ⟨U', u1, u2⟩ := hact T T' (Jn ds.length, U.2) o3 hU.pop.2.2 l1
  refine ⟨t', B', by rw [l3]; exact l2, ⟨l3', l5⟩, ?_⟩
  exact Or.inl ⟨i, _, 1, Nat.le_refl _, by omega, RUN.one (tokZ h hi h5) hU u1, hs, h2, hds, T', _, o3, len + 1, rfl, u2, l4, by omega⟩
theorem up_acc (h : LX C mX m kd pl vl Ls) {B B' E op ds b p t i s} (hc : CL B B') (hA : ACC m kd pl vl Ls B' E op (101 :: ds) b p t i s) : OK C mX m kd pl vl s i 1 0 p (ACC m kd pl vl Ls B E op ds b p t) := by
  obtain ⟨hs, h2, h3, T, U, o3, len, rfl, hU, h6, h7⟩ := hA
  obtain ⟨hi, h5, _⟩ := id hs
  rw [List.length_cons] at h3
  obtain ⟨T3, a1, a2⟩ := hc.2 t T len h6
  exact Or.inl ⟨i, _, 1, Nat.le_refl _, by omega, RUN.one (tokZ h hi h5) hU (act_101 a1), hs, h2, by omega, T3, _, o3, len, rfl, hU.pop.2.2, a2, h7⟩
theorem type_acc (h : LX C mX m kd pl vl Ls) {B E op ds b p t i s} (hb : b ≤ 9) (hd : ds.length + 10 ≤ 200 + 20 * op) (hA : ACC m kd pl vl Ls B E op (109 :: ds) b p t i s) :
    ∃ r, f_Parser_type p (Jn m, ar, kd, pl, vl) t (Jn B.2.1) = some r ∧ OK C mX m kd pl vl s i (-29) 10 r.1 (ACC m kd pl vl Ls B E op ds (b - 1) r.1 r.2) := by
  obtain ⟨hs, h2, h3, T, U, o3, len, e0, hU, h6, h7⟩ := id hA
  obtain ⟨hi, h5, _⟩ := id hs
  have hf := tokF h hi h5
  have q80 := KM_iff hf.1 (show ((1 : Int32), (80 : Int32)) ∈ KMT by decide)
  have q14 := KM_iff hf.1 (show ((270 : Int32), (14 : Int32)) ∈ KMT by decide)
  obtain ⟨k1, k2, k3⟩ := hs.kind
  rw [List.length_cons] at h3
  unfold f_Parser_type
  rw [k1, k2, k3]
  by_cases c1 : kd i = 1
  · rw [if_pos c1]
    obtain ⟨n', t', p', a1, a2, a3⟩ := leafAdv (ar := ar) h hA (by rw [c1]; decide) (by omega) (ds' := ds) (by omega) 10 (vl i) (by
      intro T T' U o3 hU hl hst
      refine ⟨U, act_109 (r21 := ((Ls (i + 1)).1, (Ls (i + 1)).2, T', U)) ?_, hU⟩
      unfold f_Model_type
      rw [if_neg (by rw [← q14, c1]; decide), if_pos (by rw [← q80]; exact c1), hf.2.1, hf.2.2.2.1 (Or.inl c1), hl, ob_some, hst]; rfl)
    rw [c1] at a2
    rw [a1, ob_some, a2, ob_some]
    exact ⟨_, rfl, a3.mono (by omega) (by omega) (fun _ _ _ z => z)⟩
  · rw [if_neg c1]
    by_cases c2 : kd i = 270
    · rw [if_pos c2]
      obtain ⟨t', p', B', a1, a2, hc, o1⟩ := downAdv (ar := ar) h hA (by rw [c2]; decide) (by omega) (ds' := 57 :: 113 :: 51 :: 113 :: 58 :: 15 :: 104 :: 101 :: ds) (by simp only [List.length_cons]; omega) 9 0 (by
        intro T T' U o3 hU hl hst
        obtain ⟨U1, u1, v1⟩ := push4_ok hU (by omega) 101 104 15 58
        obtain ⟨U2, u2, v2⟩ := push4_ok v1 (by simp only [List.length_cons]; omega) 113 51 113 57
        refine ⟨U2, act_109 (r21 := ((Ls (i + 1)).1, (Ls (i + 1)).2, T', U2)) ?_, v2⟩
        unfold f_Model_type
        rw [if_pos (by rw [← q14]; exact c2), hf.2.1, hl, ob_some, hst, ob_some, u1, ob_some, u2]; rfl)
      rw [c2] at a2
      rw [a1, ob_some, a2, ob_some]
      dsimp only
      obtain ⟨p2, e2, o2⟩ := o1.seq (fun i s _ hw => pass_acc (ar := ar) (c := 91) h (by decide) (by decide) hw) (fun i td hd => dm_take hd _ 91 (by decide))
      rw [e2, ob_some]
      obtain ⟨r3, e3, o3'⟩ := o2.seq (fun i s _ hw => constant_acc (ar := ar) h (by omega) hw) (fun i td hd => dm_constant hd _ _ _)
      rw [e3, ob_some]
      obtain ⟨p4, e4, o4⟩ := o3'.seq (fun i s _ hw => pass_acc (ar := ar) (c := 11822) h (by decide) (by decide) hw) (fun i td hd => dm_take hd _ 11822 (by decide))
      rw [e4, ob_some]
      obtain ⟨r5, e5, o5⟩ := o4.seq (fun i s _ hw => constant_acc (ar := ar) h (by omega) hw) (fun i td hd => dm_constant hd _ _ _)
      rw [e5, ob_some]
      obtain ⟨p6, e6, o6⟩ := o5.seq (fun i s _ hw => pass_acc (ar := ar) (c := 93) h (by decide) (by decide) hw) (fun i td hd => dm_take hd _ 93 (by decide))
      rw [e6, ob_some]
      obtain ⟨p7, e7, o7⟩ := o6.seq (fun i s _ hw => pass_acc (ar := ar) (c := 271) h (by decide) (by decide) hw) (fun i td hd => dm_take hd _ 271 (by decide))
      rw [e7, ob_some]
      obtain ⟨r8, e8, o8⟩ := o7.seq (fun i s _ hw => simple_acc (ar := ar) h (by omega) hw) (fun i td hd => dm_simpleType hd _ _ _)
      rw [e8, ob_some]
      obtain ⟨r9, e9, o9⟩ := o8.seq (r := some (r8.1, r8.2)) (pr := fun r => r.1) (W' := fun r => ACC m kd pl vl Ls B E op ds (b - 1) r.1 r.2) (c' := 1) (F' := 0) (fun i s _ hw => ⟨_, rfl, (up_acc h hc hw).mono (by omega) (by omega) (fun _ _ _ z => z.mono (by omega))⟩) (fun i td hd => ⟨_, rfl, hd⟩)
      exact ⟨r9, e9, o9.mono (by omega) (by omega) (fun _ _ _ z => z)⟩
    · rw [if_neg c2]
      -- simple type under TYPE
      unfold f_Parser_simpleType
      rw [k1, k2]
      rcases KM_type hf.1 with ⟨d1, d2, d3, d4⟩ | ⟨d1, d2⟩
      · have h4 : kd i ≠ 4 := by rcases d1 with e | e | e <;> rw [e] <;> decide
        obtain ⟨n', t', p', a1, a2, a3⟩ := leafAdv (ar := ar) h hA h4 (by omega) (ds' := ds) (by omega) 8 (kd i - 267) (by
          intro T T' U o3 hU hl hst
          refine ⟨U, act_109 (r21 := ((Ls (i + 1)).1, (Ls (i + 1)).2, T', U)) ?_, hU⟩
          unfold f_Model_type f_Model_simple
          rw [if_neg (by rw [← q14]; exact c2), if_neg (by rw [← q80]; exact c1), if_neg d2, if_neg d3, hf.2.1, ← d4, hl, ob_some, hst]; rfl)
        have res : ∃ r, (((f_Tree_add t (Jn B.2.1) 8 (pl i) (kd i - 267)).bind fun r2 => (f_Parser_take p (Jn m, ar, kd, pl, vl) (kd i)).bind fun r3 => some (r3, r2.2)).bind fun r3 => some (r3.1, r3.2)) = some r ∧ OK C mX m kd pl vl s i (-29) 10 r.1 (ACC m kd pl vl Ls B E op ds (b - 1) r.1 r.2) := by
          rw [a1, ob_some, a2, ob_some]; exact ⟨_, rfl, a3.mono (by omega) (by omega) (fun _ _ _ z => z)⟩
        by_cases f1 : kd i = 267
        · rw [if_pos f1]; exact res
        · rw [if_neg f1]
          by_cases f2 : kd i = 268
          · rw [if_pos f2]; exact res
          · rw [if_neg f2, if_pos ((d1.resolve_left f1).resolve_left f2)]; exact res
      · rw [if_neg (fun e => d1 (Or.inl e)), if_neg (fun e => d1 (Or.inr (Or.inl e))), if_neg (fun e => d1 (Or.inr (Or.inr e))), ob_some]
        refine ⟨_, rfl, ?_⟩
        have := wrongAct h hA (W := ACC m kd pl vl Ls B E op ds (b - 1) (p.1, 6, p.2.2) t) (by
          intro T U o3 w hw
          refine act_109 (r21 := (w, (Ls i).2, T, U)) ?_
          unfold f_Model_type f_Model_simple
          rw [if_neg (by rw [← q14]; exact c2), if_neg (by rw [← q80]; exact c1)]
          by_cases c3 : (Ls i).1.2.1 < 11
          · rw [if_pos c3, hw]; rfl
          · rw [if_neg c3, if_pos (d2.resolve_left c3), hw]; rfl)
        exact this.mono (by omega) (by omega) (fun _ _ _ z => z)
end
end
section
/-! Declarations and sections. -/
section
variable {C : S_MC} {mX : S_MX} {m : Nat} {ar : Int32} {kd pl vl : Nat → Int32} {Ls : Nat → S_ML × S_MN}
theorem ACC.kind {B E op ds b p t i s} (hA : ACC m kd pl vl Ls B E op ds b p t i s) : p.2.1 = kd i := hA.1.kind.1
theorem ACC.tok (h : LX C mX m kd pl vl Ls) {B E op ds b p t i s} (hA : ACC m kd pl vl Ls B E op ds b p t i s) : KM (kd i) (Ls i).1.2.1 ∧ (Ls i).1.1 = pl i := by
  obtain ⟨⟨hi, h5, _⟩, _⟩ := hA
  have := tokF h hi h5
  exact ⟨this.1, this.2.1⟩
/-- perhaps(): nothing comes -/
theorem no_acc (h : LX C mX m kd pl vl Ls) {B E op ds b p t i s} {x c T' a f : Int32} (hc : (c, T') ∈ KMT) (hA : ACC m kd pl vl Ls B E op (x :: ds) b p t i s) (hk : ¬ p.2.1 = c)
    (hx : ∀ {L : S_ML} {N : S_MN} {T : S_MT} {U : S_MU} {O : S_MO} {r : S_ML × S_MN × S_MU}, f_Model_perhaps C mX L N U T' a f = some r → f_Model_act C mX L N T U O E x = some (r.1, r.2.1, T, r.2.2, O, E)) :
    OK C mX m kd pl vl s i 1 0 p (ACC m kd pl vl Ls B E op ds b p t) :=
  perhapsNo h hA (fun T U o3 => hx (perhaps_no (by rw [← KM_iff (hA.tok h).1 hc, ← hA.kind]; exact hk)))
/-- perhaps(): it comes -/
theorem yes_acc (h : LX C mX m kd pl vl Ls) {B E op ds b p t i s} {x c T' f : Int32} (hc : (c, T') ∈ KMT) (h4 : c ≠ 4) (hA : ACC m kd pl vl Ls B E op (x :: ds) b p t i s) (hk : p.2.1 = c)
    (hx : ∀ {L : S_ML} {N : S_MN} {T : S_MT} {U : S_MU} {O : S_MO} {r : S_ML × S_MN × S_MU}, f_Model_perhaps C mX L N U T' (-1) f = some r → f_Model_act C mX L N T U O E x = some (r.1, r.2.1, T, r.2.2, O, E)) :
    ∃ p', f_Parser_take p (Jn m, ar, kd, pl, vl) c = some p' ∧ OK C mX m kd pl vl s i (-29) 1 p' (ACC m kd pl vl Ls B E op (f :: ds) (b - 2) p' t) := by
  have hk' : kd i = c := by rw [← hA.kind]; exact hk
  obtain ⟨_, h2, h3, _⟩ := id hA
  rw [List.length_cons] at h3
  have := perhapsYes (ar := ar) h hA (by rw [hk']; exact h4) (ds' := f :: ds) (by rw [List.length_cons]; omega) (fun T U o3 hU hst => by
    obtain ⟨U', u1, u2⟩ := push_ok hU (by omega) f
    exact ⟨U', hx (perhaps_one (by rw [← KM_iff (hA.tok h).1 hc]; exact hk') hst u1), u2⟩)
  rw [hk'] at this
  exact this
theorem moreNames_acc (h : LX C mX m kd pl vl Ls) {B E op ds} : ∀ (d f tn : Nat) (p : S_Parser) (t : S_Tree) (i : Nat) (s : MSt) (b : Int), b ≤ 9 → m - i < d → d ≤ f → tn ≤ i → ACC m kd pl vl Ls B E op (111 :: ds) b p t i s →
    ∃ r, f_Parser_declaration_L22 (Jn B.2.1) (Jn m, ar, kd, pl, vl) f (Jn tn) p t = some r ∧ OK C mX m kd pl vl s i 1 2 r.1 (ACC m kd pl vl Ls B E op ds b r.1 r.2) := by
  have hm := h.2.2.2.2.2
  intro d
  induction d with
  | zero => intro f tn p t i s b hb h1; omega
  | succ d ih =>
    intro f tn p t i s b hb h1 h2 htn hA
    obtain ⟨f, rfl⟩ : ∃ g, f = g + 1 := ⟨f - 1, by omega⟩
    have hi : i < m := hA.1.1
    unfold f_Parser_declaration_L22
    rw [if_neg (nleL 8192 (by omega))]
    by_cases c : p.2.1 = 44
    · rw [if_pos c]
      obtain ⟨p1, e1, o1⟩ := yes_acc (ar := ar) (f := 107) h (show ((44 : Int32), (59 : Int32)) ∈ KMT by decide) (by decide) hA c (fun hp => act_111 hp)
      rw [e1, ob_some]
      obtain ⟨r2, e2, o2⟩ := o1.seq (fun i s _ hw => names1_acc (ar := ar) h (by omega) hw) (fun i td hd => dm_nameNode hd _ _ _)
      rw [e2, ob_some, nm_eq, addL tn 1]
      obtain ⟨r3, e3, o3⟩ := o2.seqP (fun i' s' hi' hpos hw => ih f (tn + 1) _ _ i' s' _ (by omega) (by omega) (by omega) (by omega) hw) (fun i td hd => ⟨_, by
        obtain ⟨g, rfl⟩ : ∃ g, f = g + 1 := ⟨f - 1, by omega⟩
        exact dm_L22 hd _ _ _ _ _, hd⟩)
      exact ⟨r3, e3, o3.mono (by omega) (by omega) (fun _ _ _ z => z.mono (by omega))⟩
    · rw [if_neg c]
      exact ⟨_, rfl, (no_acc (a := -1) (f := 107) h (show ((44 : Int32), (59 : Int32)) ∈ KMT by decide) hA c (fun hp => act_111 hp)).mono (by omega) (by omega) (fun _ _ _ z => z)⟩
theorem declTail_acc (h : LX C mX m kd pl vl Ls) {B E op ds b p t i s} (hb : b ≤ 9) (hd : ds.length + 20 ≤ 200 + 20 * op) (hA : ACC m kd pl vl Ls B E op (61 :: 109 :: 110 :: 60 :: ds) b p t i s) :
    ∃ r, ((f_Parser_take p (Jn m, ar, kd, pl, vl) 58).bind fun r5 => (f_Parser_type r5 (Jn m, ar, kd, pl, vl) t (Jn B.2.1)).bind fun r6 =>
      if r6.1.2.1 = 14909 then
        (f_Parser_take r6.1 (Jn m, ar, kd, pl, vl) 14909).bind fun r9 => (f_Parser_constant r9 (Jn m, ar, kd, pl, vl) r6.2 (Jn B.2.1)).bind fun r10 => (f_Parser_take r10.1 (Jn m, ar, kd, pl, vl) 59).bind fun r11 => some (r11, r10.2)
      else (f_Parser_take r6.1 (Jn m, ar, kd, pl, vl) 59).bind fun r8 => some (r8, r6.2)) = some r ∧ OK C mX m kd pl vl s i (-29) 10 r.1 (ACC m kd pl vl Ls B E op ds (b - 1) r.1 r.2) := by
  obtain ⟨p1, e1, o1⟩ := pass_acc (ar := ar) (c := 58) h (by decide) (by decide) hA
  rw [e1, ob_some]
  obtain ⟨r2, e2, o2⟩ := o1.seq (fun i s _ hw => type_acc (ar := ar) h (by omega) (by simp only [List.length_cons]; omega) hw) (fun i td hd => dm_type hd _ _ _)
  rw [e2, ob_some]
  by_cases c : r2.1.2.1 = 14909
  · rw [if_pos c]
    obtain ⟨p3, e3, o3⟩ := o2.seq (fun i s _ hw => yes_acc (ar := ar) (f := 113) h (show ((14909 : Int32), (50 : Int32)) ∈ KMT by decide) (by decide) hw c (fun hp => act_110 hp)) (fun i td hd => absurd c (hd.ne 14909 (by decide) (by decide)))
    rw [e3, ob_some]
    obtain ⟨r4, e4, o4⟩ := o3.seq (fun i s _ hw => constant_acc (ar := ar) h (by omega) hw) (fun i td hd => dm_constant hd _ _ _)
    rw [e4, ob_some]
    obtain ⟨p5, e5, o5⟩ := o4.seq (fun i s _ hw => pass_acc (ar := ar) (c := 59) h (by decide) (by decide) hw) (fun i td hd => dm_take hd _ 59 (by decide))
    rw [e5, ob_some]
    exact ⟨_, rfl, o5.mono (by omega) (by omega) (fun _ _ _ z => z.mono (by omega))⟩
  · rw [if_neg c]
    obtain ⟨p3, e3, o3⟩ := o2.seq (fun i s _ hw => (no_acc (a := -1) (f := 113) h (show ((14909 : Int32), (50 : Int32)) ∈ KMT by decide) hw c (fun hp => act_110 hp)).seq (fun i s _ hw => pass_acc (ar := ar) (c := 59) h (by decide) (by decide) hw) (fun i td hd => dm_take hd _ 59 (by decide))) (fun i td hd => dm_take hd _ 59 (by decide))
    rw [e3, ob_some]
    exact ⟨_, rfl, o3.mono (by omega) (by omega) (fun _ _ _ z => z.mono (by omega))⟩
theorem declaration_acc (h : LX C mX m kd pl vl Ls) {B E op ds b p t i s} (hb : b ≤ 5) (hd : ds.length + 40 ≤ 200 + 20 * op) (hk : p.2.1 = 1) (hA : ACC m kd pl vl Ls B E op (106 :: ds) b p t i s) :
    ∃ r, f_Parser_declaration p (Jn m, ar, kd, pl, vl) t (Jn B.2.1) = some r ∧ OK C mX m kd pl vl s i (-29) 15 r.1 (ACC m kd pl vl Ls B E op (106 :: ds) b r.1 r.2) := by
  have hm := h.2.2.2.2.2
  have hop := hA.2.1
  have hk' : kd i = 1 := by rw [← hA.kind]; exact hk
  have htok := hA.tok h
  have q80 := KM_iff htok.1 (show ((1 : Int32), (80 : Int32)) ∈ KMT by decide)
  obtain ⟨k1, k2, k3⟩ := hA.1.kind
  unfold f_Parser_declaration
  rw [k2]
  obtain ⟨t1, B', e1, hc, o1⟩ := downStay h hA (by omega) (ds' := 107 :: 108 :: 61 :: 109 :: 110 :: 60 :: 101 :: 106 :: ds) (by simp only [List.length_cons]; omega) 5 (pl i) 0 (by
    intro T T' U o3 hU hl
    obtain ⟨U1, u1, v1⟩ := push4_ok hU (by omega) 106 101 60 110
    obtain ⟨U2, u2, v2⟩ := push4_ok v1 (by simp only [List.length_cons]; omega) 109 61 108 107
    refine ⟨U2, act_106 (r14 := (T', U2)) ?_, v2⟩
    unfold f_Model_declarations
    rw [if_pos (by rw [← q80]; exact hk'), htok.2, hl, ob_some, u1, ob_some, u2]; rfl)
  rw [e1, ob_some]
  dsimp only
  obtain ⟨r2, e2, o2⟩ := o1.seq (fun i s _ hw => names1_acc (ar := ar) h (by omega) hw) (fun i td hd => dm_nameNode hd _ _ _)
  rw [e2, ob_some]
  obtain ⟨r3, e3, o3⟩ := o2.seq (fun i s _ hw => moreNames_acc (ar := ar) h 9000 FU 0 _ _ i s _ (by omega) (by omega) (by decide) (by omega) hw) (fun i td hd => ⟨_, by rw [FU1]; exact dm_L22 hd _ _ _ _ _, hd⟩)
  rw [show (0 : Int32) = Jn 0 from rfl, e3, ob_some]
  have fin : ∀ (r : S_Parser × S_Tree) (c F : Int), c ≤ -30 → F ≤ 15 → OK C mX m kd pl vl s i c F r.1 (ACC m kd pl vl Ls B' E op (101 :: 106 :: ds) (b - 1) r.1 r.2) → OK C mX m kd pl vl s i (-29) 15 r.1 (ACC m kd pl vl Ls B E op (106 :: ds) b r.1 r.2) := by
    intro r c F hc1 hF1 o
    obtain ⟨r', e', o'⟩ := o.seq (r := some r) (pr := fun r => r.1) (W' := fun r => ACC m kd pl vl Ls B E op (106 :: ds) b r.1 r.2) (c' := 1) (F' := 0) (fun i s _ hw => ⟨_, rfl, (up_acc h hc hw).mono (by omega) (by omega) (fun _ _ _ z => z.mono (by omega))⟩) (fun i td hd => ⟨_, rfl, hd⟩)
    injection e' with e'
    subst e'
    exact o'.mono (by omega) (by omega) (fun _ _ _ z => z)
  by_cases c : r3.1.2.1 = 266
  · rw [if_pos c]
    obtain ⟨p4, e4, o4⟩ := o3.seq (fun i s _ hw => yes_acc (ar := ar) (f := 112) h (show ((266 : Int32), (10 : Int32)) ∈ KMT by decide) (by decide) hw c (fun hp => act_108 hp)) (fun i td hd => absurd c (hd.ne 266 (by decide) (by decide)))
    rw [e4, ob_some]
    obtain ⟨r5, e5, o5⟩ := o4.seq (r := (f_Tree_add r3.2 (Jn B'.2.1) 7 p4.2.2.1 p4.2.2.2.1).bind fun r1 => (f_Parser_take p4 (Jn m, ar, kd, pl, vl) 3).bind fun r2 => some (r2, r1.2)) (pr := fun r => r.1) (W' := fun r => ACC m kd pl vl Ls B' E op (61 :: 109 :: 110 :: 60 :: 101 :: 106 :: ds) (b - 1) r.1 r.2) (c' := -29) (F' := 1) (fun i s _ hw => by
      have ht := hw.tok h
      obtain ⟨r, x1, x2⟩ := leafPass (ar := ar) (ds' := 61 :: 109 :: 110 :: 60 :: 101 :: 106 :: ds) h hw (by omega) (by simp only [List.length_cons]; omega) 7 3 82 (by decide) (Or.inr (Or.inr rfl)) (by
        intro T T1 U o3 r hU hl hp
        refine ⟨U, ?_, hU⟩
        exact act_112 (by rw [ht.2]; exact hl) hp)
      exact ⟨r, x1, x2.mono (by omega) (by omega) (fun _ _ _ z => z.mono (by omega))⟩) (fun i td hd => dma fun r1 => dmb (dm_take hd _ 3 (by decide)) fun r2 h2 => ⟨_, rfl, h2⟩)
    obtain ⟨n6, t6, e6⟩ := add_tot r3.2 (Jn B'.2.1) 7 p4.2.2.1 p4.2.2.2.1
    rw [e6, ob_some] at e5
    rw [e6, ob_some]
    obtain ⟨p7, e7, e8⟩ := ob_use e5
    injection e8 with e8
    rw [e7, ob_some]
    subst e8
    dsimp only at o5 ⊢
    obtain ⟨r9, e9, o9⟩ := o5.seq (fun i s _ hw => declTail_acc (ar := ar) h (by omega) (by simp only [List.length_cons]; omega) hw) (fun i td hd => dmb (dm_take hd _ 58 (by decide)) fun r5 h5 => dmb (dm_type h5 _ _ _) fun r6 h6 => by
      rw [if_neg (h6.ne 14909 (by decide) (by decide))]
      exact dmb (dm_take h6 _ 59 (by decide)) fun r8 h8 => ⟨_, rfl, h8⟩)
    rw [e9]
    exact ⟨r9, rfl, fin r9 _ _ (by omega) (by omega) (o9.mono (Int.le_refl _) (Int.le_refl _) (fun _ _ _ z => z.mono (by omega)))⟩
  · rw [if_neg c]
    obtain ⟨r9, e9, o9⟩ := o3.seq (fun i s _ hw => (no_acc (a := -1) (f := 112) h (show ((266 : Int32), (10 : Int32)) ∈ KMT by decide) hw c (fun hp => act_108 hp)).seq (fun i s _ hw => declTail_acc (ar := ar) h (by omega) (by simp only [List.length_cons]; omega) hw) (fun i td hd => dmb (dm_take hd _ 58 (by decide)) fun r5 h5 => dmb (dm_type h5 _ _ _) fun r6 h6 => by
      rw [if_neg (h6.ne 14909 (by decide) (by decide))]
      exact dmb (dm_take h6 _ 59 (by decide)) fun r8 h8 => ⟨_, rfl, h8⟩)) (fun i td hd => dmb (dm_take hd _ 58 (by decide)) fun r5 h5 => dmb (dm_type h5 _ _ _) fun r6 h6 => by
      rw [if_neg (h6.ne 14909 (by decide) (by decide))]
      exact dmb (dm_take h6 _ 59 (by decide)) fun r8 h8 => ⟨_, rfl, h8⟩)
    rw [e9]
    exact ⟨r9, rfl, fin r9 _ _ (by omega) (by omega) (o9.mono (Int.le_refl _) (Int.le_refl _) (fun _ _ _ z => z.mono (by omega)))⟩
end
end
section
/-! Sections. -/
section
variable {C : S_MC} {mX : S_MX} {m : Nat} {ar : Int32} {kd pl vl : Nat → Int32} {Ls : Nat → S_ML × S_MN}
theorem decls_acc (h : LX C mX m kd pl vl Ls) {B E op ds} (hd : ds.length + 40 ≤ 200 + 20 * op) : ∀ (d f tn : Nat) (p : S_Parser) (t : S_Tree) (i : Nat) (s : MSt) (b : Int), b ≤ 5 → m - i < d → d ≤ f → tn ≤ i → ACC m kd pl vl Ls B E op (106 :: ds) b p t i s →
    ∃ r, f_Parser_sections_L49 (Jn B.2.1) (Jn m, ar, kd, pl, vl) f (Jn tn) p t = some r ∧ OK C mX m kd pl vl s i 1 20 r.1 (ACC m kd pl vl Ls B E op ds b r.1 r.2) := by
  have hm := h.2.2.2.2.2
  intro d
  induction d with
  | zero => intro f tn p t i s b hb h1; omega
  | succ d ih =>
    intro f tn p t i s b hb h1 h2 htn hA
    obtain ⟨f, rfl⟩ : ∃ g, f = g + 1 := ⟨f - 1, by omega⟩
    have hi : i < m := hA.1.1
    have htok := hA.tok h
    have q80 := KM_iff htok.1 (show ((1 : Int32), (80 : Int32)) ∈ KMT by decide)
    unfold f_Parser_sections_L49
    rw [if_neg (nleL 8192 (by omega))]
    by_cases c : p.2.1 = 1
    · rw [if_pos c]
      obtain ⟨r1, e1, o1⟩ := declaration_acc (ar := ar) h hb hd c hA
      rw [e1, ob_some, nm_eq, addL tn 1]
      obtain ⟨r3, e3, o3⟩ := o1.seqP (fun i' s' hi' hpos hw => ih f (tn + 1) _ _ i' s' _ hb (by omega) (by omega) (by omega) hw) (fun i td hd => ⟨_, by
        obtain ⟨g, rfl⟩ : ∃ g, f = g + 1 := ⟨f - 1, by omega⟩
        exact dm_L49 hd _ _ _ _ _, hd⟩)
      exact ⟨r3, e3, o3.mono (by omega) (by omega) (fun _ _ _ z => z)⟩
    · rw [if_neg c]
      refine ⟨_, rfl, (perhapsNo h hA (fun T U o3 => ?_)).mono (by omega) (by omega) (fun _ _ _ z => z)⟩
      refine act_106 (r14 := (T, U)) ?_
      unfold f_Model_declarations
      rw [if_neg (by rw [← q80, ← hA.kind]; exact c)]
theorem KM_sect {K T : Int32} (h : KM K T) : ((K = 262 ∨ K = 263 ∨ K = 264) ∧ ¬ T < 6 ∧ ¬ 8 < T ∧ K - 262 = T - 6) ∨ (¬ (K = 262 ∨ K = 263 ∨ K = 264) ∧ (T < 6 ∨ 8 < T)) := by
  have key : ∀ p ∈ KMT, ((p.1 = 262 ∨ p.1 = 263 ∨ p.1 = 264) ∧ ¬ p.2 < 6 ∧ ¬ 8 < p.2 ∧ p.1 - 262 = p.2 - 6) ∨ (¬ (p.1 = 262 ∨ p.1 = 263 ∨ p.1 = 264) ∧ (p.2 < 6 ∨ 8 < p.2)) := by decide +kernel
  exact key (K, T) h
theorem startsSection_eq (p : S_Parser) : ((p.2.1 = 262 ∨ p.2.1 = 263 ∨ p.2.1 = 264) → f_Parser_startsSection p = some 1) ∧ (¬ (p.2.1 = 262 ∨ p.2.1 = 263 ∨ p.2.1 = 264) → f_Parser_startsSection p = some 0) := by
  unfold f_Parser_startsSection
  constructor
  · intro c
    by_cases a : p.2.1 = 262
    · rw [if_pos a]
    · rw [if_neg a]
      by_cases b : p.2.1 = 263
      · rw [if_pos b]
      · rw [if_neg b, if_pos ((c.resolve_left a).resolve_left b)]
  · intro c
    rw [if_neg (fun e => c (Or.inl e)), if_neg (fun e => c (Or.inr (Or.inl e))), if_neg (fun e => c (Or.inr (Or.inr e)))]
theorem sectL_acc (h : LX C mX m kd pl vl Ls) {B E op ds} (hd : ds.length + 60 ≤ 200 + 20 * op) : ∀ (d f tn : Nat) (p : S_Parser) (t : S_Tree) (i : Nat) (s : MSt) (b : Int), b ≤ 5 → m - i < d → d ≤ f → tn ≤ i → ACC m kd pl vl Ls B E op (103 :: ds) b p t i s →
    ∃ r, f_Parser_sections_L2 (Jn B.2.1) (Jn m, ar, kd, pl, vl) f (Jn tn) p t = some r ∧ OK C mX m kd pl vl s i 1 20 r.1 (ACC m kd pl vl Ls B E op ds b r.1 r.2) := by
  have hm := h.2.2.2.2.2
  intro d
  induction d with
  | zero => intro f tn p t i s b hb h1; omega
  | succ d ih =>
    intro f tn p t i s b hb h1 h2 htn hA
    obtain ⟨f, rfl⟩ : ∃ g, f = g + 1 := ⟨f - 1, by omega⟩
    have hi : i < m := hA.1.1
    have hop := hA.2.1
    have htok := hA.tok h
    obtain ⟨k1, k2, k3⟩ := hA.1.kind
    unfold f_Parser_sections_L2
    rw [if_neg (nleL 8192 (by omega))]
    rcases KM_sect htok.1 with ⟨c1, c2, c3, c4⟩ | ⟨c1, c2⟩
    · have h4 : kd i ≠ 4 := by rcases c1 with e | e | e <;> rw [e] <;> decide
      rw [(startsSection_eq p).1 (by rw [k1]; exact c1), ob_some, if_neg (by decide), k1, k2]
      obtain ⟨t1, p1, B', e1, e2, hc, o1⟩ := downAdv (ar := ar) h hA h4 (by omega) (ds' := 106 :: 9 :: 101 :: 103 :: ds) (by simp only [List.length_cons]; omega) 4 (kd i - 262) (by
        intro T T' U o3 hU hl hst
        obtain ⟨U1, u1, v1⟩ := push4_ok hU (by omega) 103 101 9 106
        refine ⟨U1, act_103 (r8 := ((Ls (i + 1)).1, (Ls (i + 1)).2, T', U1)) ?_, v1⟩
        unfold f_Model_sections
        rw [if_neg c2, if_neg c3, htok.2, ← c4, hl, ob_some, hst, ob_some, u1]; rfl)
      rw [e1, ob_some, e2, ob_some]
      dsimp only
      obtain ⟨r2, e3, o2⟩ := o1.seq (fun i s _ hw => decls_acc (ar := ar) h (by simp only [List.length_cons]; omega) 9000 FU 0 _ _ i s _ (by omega) (by omega) (by decide) (by omega) hw) (fun i td hd => ⟨_, by rw [FU1]; exact dm_L49 hd _ _ _ _ _, hd⟩)
      rw [show (0 : Int32) = Jn 0 from rfl, e3, ob_some]
      obtain ⟨p4, e4, o4⟩ := o2.seq (fun i s _ hw => pass_acc (ar := ar) (c := 265) h (by decide) (by decide) hw) (fun i td hd => dm_take hd _ 265 (by decide))
      rw [e4, ob_some, nm_eq, addL tn 1]
      obtain ⟨r5, e5, o5⟩ := o4.seqP (fun i' s' hi' hpos hw => by
        have u := up_acc h hc hw
        obtain ⟨r, x1, x2⟩ := u.seqP (fun i2 s2 hi2 hp2 hw2 => ih f (tn + 1) _ _ i2 s2 _ (by omega) (by omega) (by omega) (by omega) hw2) (fun i td hd => ⟨_, by
          obtain ⟨g, rfl⟩ : ∃ g, f = g + 1 := ⟨f - 1, by omega⟩
          exact dm_L2 hd _ _ _ _ _, hd⟩)
        exact ⟨r, x1, x2⟩) (fun i td hd => ⟨_, by
          obtain ⟨g, rfl⟩ : ∃ g, f = g + 1 := ⟨f - 1, by omega⟩
          exact dm_L2 hd _ _ _ _ _, hd⟩)
      exact ⟨r5, e5, o5.mono (by omega) (by omega) (fun _ _ _ z => z.mono (by omega))⟩
    · rw [(startsSection_eq p).2 (by rw [k1]; exact c1), ob_some, if_pos rfl]
      refine ⟨_, rfl, (perhapsNo h hA (fun T U o3 => ?_)).mono (by omega) (by omega) (fun _ _ _ z => z)⟩
      refine act_103 (r8 := ((Ls i).1, (Ls i).2, T, U)) ?_
      unfold f_Model_sections
      by_cases c3 : (Ls i).1.2.1 < 6
      · rw [if_pos c3]
      · rw [if_neg c3, if_pos (c2.resolve_left c3)]
theorem sections_acc (h : LX C mX m kd pl vl Ls) {B E op ds b p t i s} (hd : ds.length + 60 ≤ 200 + 20 * op) (hb : b ≤ 5) (hA : ACC m kd pl vl Ls B E op (103 :: ds) b p t i s) :
    ∃ r, f_Parser_sections p (Jn m, ar, kd, pl, vl) t (Jn B.2.1) = some r ∧ OK C mX m kd pl vl s i 1 20 r.1 (ACC m kd pl vl Ls B E op ds b r.1 r.2) := by
  have hm := h.2.2.2.2.2
  unfold f_Parser_sections
  obtain ⟨r, e, o⟩ := sectL_acc (ar := ar) h hd 9000 FU 0 p t i s b hb (by omega) (by decide) (by omega) hA
  rw [show (0 : Int32) = Jn 0 from rfl, e, ob_some]
  exact ⟨_, rfl, o⟩
end
end
section
/-! Cells of a ladder's rows. -/
theorem setVal {T : S_MT} {z : Nat} {k p v0 v : Int32} (h : dat T z = (k, p, v0)) : (T.1, T.2.1, T.2.2.1, T.2.2.2.1, upd T.2.2.2.2.1 z v, T.2.2.2.2.2) = setV T z p v := by
  unfold dat at h
  injection h with h1 h2
  injection h2 with h2 h3
  unfold setV
  rw [upd_id h2]
section
variable {C : S_MC} {mX : S_MX} {m : Nat} {ar : Int32} {kd pl vl : Nat → Int32} {Ls : Nat → S_ML × S_MN}
/-- what stands behind the contact's sign -/
theorem contact2_acc (h : LX C mX m kd pl vl Ls) {B E op ds b p t i s} (hb : b ≤ 8) (hd : ds.length + 10 ≤ 200 + 20 * op) (hA : ACC m kd pl vl Ls B E op (155 :: ds) b p t i s) :
    ∃ r, ((f_Parser_takeName p (Jn m, ar, kd, pl, vl)).bind fun r4 => if r4.2.2.1 = 46 then
        (f_Parser_take r4.2 (Jn m, ar, kd, pl, vl) 46).bind fun r7 => (f_Tree_add t (Jn B.2.1) 33 p.2.2.1 r4.1).bind fun r8 => (f_Parser_nameNode r7 (Jn m, ar, kd, pl, vl) r8.2 r8.1).bind fun r9 => some (r9.1, r9.2)
      else (f_Tree_add t (Jn B.2.1) 6 p.2.2.1 r4.1).bind fun r6 => some (r4.2, r6.2)) = some r ∧ OK C mX m kd pl vl s i (-20) 5 r.1 (ACC m kd pl vl Ls B E op ds (b - 1) r.1 r.2) := by
  obtain ⟨hs, h2, h3, T, U, o3, len, e0, hU, h6, h7⟩ := id hA
  obtain ⟨hi, h5, _⟩ := id hs
  have hf := tokF h hi h5
  have q80 := KM_iff hf.1 (show ((1 : Int32), (80 : Int32)) ∈ KMT by decide)
  obtain ⟨k1, k2, k3⟩ := hs.kind
  rw [List.length_cons] at h3
  unfold f_Parser_takeName
  rw [k2, k3]
  obtain ⟨U1, u1, v1⟩ := push_ok (U := (Jn ds.length, U.2)) hU.pop.2.2 (by omega) 156
  have actc : ∀ r, f_Model_pass C mX (Ls i).1 (Ls i).2 80 = some r → RUN C mX 1 s (r.1, r.2, T, U1, (Jn op, 0, 0, pl i, (Ls i).1.2.2.1, o3.2.2), E) := by
    intro r hp
    rw [e0]
    refine RUN.one (tokZ h hi h5) hU (act_155 (r19 := (r.1, r.2, U1, (Jn op, 0, 0, pl i, (Ls i).1.2.2.1, o3.2.2))) ?_)
    unfold f_Model_contact f_Model_keepName
    rw [ob_some, u1, ob_some, hp, hf.2.1]; rfl
  -- a parser that is lost, behind the name
  have doom : ∀ (P : Int32) (q : S_Parser) (i' : Nat) (td : Int32), PD q i' td → ∃ r, (if q.2.1 = 46 then
        (f_Parser_take q (Jn m, ar, kd, pl, vl) 46).bind fun r7 => (f_Tree_add t (Jn B.2.1) 33 P (vl i)).bind fun r8 => (f_Parser_nameNode r7 (Jn m, ar, kd, pl, vl) r8.2 r8.1).bind fun r9 => some (r9.1, r9.2)
      else (f_Tree_add t (Jn B.2.1) 6 P (vl i)).bind fun r6 => some (q, r6.2)) = some r ∧ PD r.1 i' td := by
    intro P q i' td hq
    rw [if_neg (hq.ne 46 (by decide) (by decide))]
    exact dma fun r => ⟨_, rfl, hq⟩
  by_cases c1 : kd i = 1
  · have h4 : kd i ≠ 4 := by rw [c1]; decide
    have hw := hf.2.2.2.1 (Or.inl c1)
    obtain ⟨p', a1, a2, a2', a3⟩ := adv (ar := ar) h hs h4
    have hrun := actc (Ls (i + 1)) (by
      unfold f_Model_pass
      rw [if_pos (by rw [← q80]; exact c1), a2]; rfl)
    rw [hw] at hrun
    have o1 := a3 s T U1 (Jn op, 0, 0, pl i, vl i, o3.2.2) E 1 (-29) 1 (fun i' s' => ACC m kd pl vl Ls B E op (156 :: ds) (b - 2) p' t i' s' ∧ s'.2.2.2.2.1.2.2.2.1 = pl i ∧ s'.2.2.2.2.1.2.2.2.2.1 = vl i) hrun (by omega) (by omega) (by
      intro hs'
      exact ⟨⟨hs', h2, by rw [List.length_cons]; omega, T, U1, _, len, rfl, v1, h6, by omega⟩, rfl, rfl⟩)
    rw [c1] at a1
    rw [a1, ob_some, ob_some]
    dsimp only
    by_cases c46 : p'.2.1 = 46
    · rw [if_pos c46]
      -- an output
      obtain ⟨r2, e2, o2⟩ := o1.seq (c' := -57) (F' := 3) (r := (f_Parser_take p' (Jn m, ar, kd, pl, vl) 46).bind fun r7 => (f_Tree_add t (Jn B.2.1) 33 (pl i) (vl i)).bind fun r8 => (f_Parser_nameNode r7 (Jn m, ar, kd, pl, vl) r8.2 r8.1).bind fun r9 => some (r9.1, r9.2)) (pr := fun r => r.1) (W' := fun r => ACC m kd pl vl Ls B E op ds (b - 1) r.1 r.2) (fun i1 s1 _ hw1 => by
        obtain ⟨hA1, n1, n2⟩ := hw1
        obtain ⟨hs1, g2, g3, T1, U2, o4, len1, rfl, hU1, g6, g7⟩ := id hA1
        obtain ⟨hi1, h51, _⟩ := id hs1
        have hf1 := tokF h hi1 h51
        have q62 := KM_iff hf1.1 (show ((46 : Int32), (62 : Int32)) ∈ KMT by decide)
        have ck : kd i1 = 46 := by rw [← hs1.kind.1]; exact c46
        dsimp only at n1 n2
        obtain ⟨T', t', B', l1, l2, l3, l3', l4, l5⟩ := g6.down (len_ok h hi1 (by omega) g7) 33 (pl i) (vl i)
        obtain ⟨p2, x1, x2, x2', x3⟩ := adv (ar := ar) h hs1 (by rw [ck]; decide)
        obtain ⟨U3, w1, w2⟩ := push2_ok (U := (Jn ds.length, U2.2)) hU1.pop.2.2 (by omega) 101 158
        rw [ck] at x1
        rw [x1, ob_some, l2, ob_some]
        dsimp only
        rw [← l3]
        have oo := x3 _ T' U3 (Jn op, 0, 0, o4) E 1 (-29) 1 (ACC m kd pl vl Ls B' E op (158 :: 101 :: ds) (b - 3) p2 t') (RUN.one (tokZ h hi1 h51) hU1 (act_156 (r21 := ((Ls (i1 + 1)).1, (Ls (i1 + 1)).2, T', U3)) (by
          unfold f_Model_behindContact
          dsimp only
          rw [if_pos (by rw [← q62]; exact ck), n1, n2, l1, ob_some, w1, ob_some, x2]; rfl))) (by omega) (by omega) (by
          intro hs'
          exact ⟨hs', g2, by simp only [List.length_cons]; omega, T', U3, o4, len1 + 1, rfl, w2, l4, by omega⟩)
        obtain ⟨r5, e5, o5⟩ := oo.seq (fun i s _ hw => nameNode_acc (ar := ar) h (by omega) hw) (fun i td hd => dm_nameNode hd _ _ _)
        rw [e5, ob_some]
        obtain ⟨r6, e6, o6⟩ := o5.seq (r := some (r5.1, r5.2)) (pr := fun r => r.1) (W' := fun r => ACC m kd pl vl Ls B E op ds (b - 1) r.1 r.2) (c' := 1) (F' := 0) (fun i s _ hw => ⟨_, rfl, (up_acc h ⟨l3', l5⟩ hw).mono (by omega) (by omega) (fun _ _ _ z => z.mono (by omega))⟩) (fun i td hd => ⟨_, rfl, hd⟩)
        exact ⟨r6, e6, o6.mono (by omega) (by omega) (fun _ _ _ z => z)⟩) (fun i' td hq => absurd c46 (hq.ne 46 (by decide) (by decide)))
      exact ⟨r2, e2, o2.mono (by omega) (by omega) (fun _ _ _ z => z)⟩
    · rw [if_neg c46]
      obtain ⟨r2, e2, o2⟩ := o1.seq (c' := 1) (F' := 0) (r := (f_Tree_add t (Jn B.2.1) 6 (pl i) (vl i)).bind fun r6 => some (p', r6.2)) (pr := fun r => r.1) (W' := fun r => ACC m kd pl vl Ls B E op ds (b - 1) r.1 r.2) (fun i1 s1 _ hw1 => by
        obtain ⟨hA1, n1, n2⟩ := hw1
        obtain ⟨hs1, g2, g3, T1, U2, o4, len1, rfl, hU1, g6, g7⟩ := id hA1
        obtain ⟨hi1, h51, _⟩ := id hs1
        have hf1 := tokF h hi1 h51
        have q62 := KM_iff hf1.1 (show ((46 : Int32), (62 : Int32)) ∈ KMT by decide)
        dsimp only at n1 n2
        obtain ⟨T', t', l1, l2, l3⟩ := g6.leaf (len_ok h hi1 (by omega) g7) 6 (pl i) (vl i)
        rw [l2, ob_some]
        refine ⟨_, rfl, Or.inl ⟨i1, _, 1, Nat.le_refl _, by omega, RUN.one (tokZ h hi1 h51) hU1 (act_156 (r21 := ((Ls i1).1, (Ls i1).2, T', (Jn ds.length, U2.2))) ?_), hs1, g2, by omega, T', _, o4, len1 + 1, rfl, hU1.pop.2.2, l3, by omega⟩⟩
        unfold f_Model_behindContact
        dsimp only
        rw [if_neg (by rw [← q62, ← hs1.kind.1]; exact c46), n1, n2, l1]; rfl) (fun i' td hq => dma fun r => ⟨_, rfl, hq⟩)
      exact ⟨r2, e2, o2.mono (by omega) (by omega) (fun _ _ _ z => z)⟩
  · rw [take_miss (by rw [k1]; exact c1), ob_some, ob_some]
    dsimp only
    obtain ⟨w1, w2, w3⟩ := wrongOK h hs
    obtain ⟨r, e, hr⟩ := doom (pl i) (p.1, 6, p.2.2) i 0 w2
    refine ⟨r, e, ?_⟩
    have hrun := actc (((Ls i).1.1, (Ls i).1.2.1, (Ls i).1.2.2.1, (Ls i).1.2.2.2.1, (Ls i).1.2.2.2.2.1, 6, pl i), (Ls i).2) (by
      unfold f_Model_pass
      rw [if_neg (by rw [← q80]; exact c1), w1]; rfl)
    exact w3 _ _ T U1 _ E 1 _ _ _ _ hr hrun (by omega)
/-- a coil, at its opening bracket -/
theorem coil_acc (h : LX C mX m kd pl vl Ls) {B E op ds b p t i s} (hb : b ≤ 8) (hd : ds.length + 10 ≤ 200 + 20 * op) (hk : p.2.1 = 40) (hA : ACC m kd pl vl Ls B E op (153 :: ds) b p t i s) :
    ∃ r, f_Parser_coil p (Jn m, ar, kd, pl, vl) t (Jn B.2.1) = some r ∧ OK C mX m kd pl vl s i (-29) 5 r.1 (ACC m kd pl vl Ls B E op ds b r.1 r.2) := by
  obtain ⟨hs, h2, h3, T, U, o3, len, e0, hU, h6, h7⟩ := id hA
  obtain ⟨hi, h5, _⟩ := id hs
  have hf := tokF h hi h5
  obtain ⟨k1, k2, k3⟩ := hs.kind
  have ck : kd i = 40 := by rw [← k1]; exact hk
  have q55 := KM_iff hf.1 (show ((40 : Int32), (55 : Int32)) ∈ KMT by decide)
  have et : (Ls i).1.2.1 = 55 := by rw [← q55]; exact ck
  rw [List.length_cons] at h3
  unfold f_Parser_coil
  rw [k2]
  obtain ⟨T', z, d1, d2, d3, d4, d5⟩ := h6.downM (len_ok h hi (by omega) h7) 28 (pl i) 0
  obtain ⟨p1, a1, a2, a2', a3⟩ := adv (ar := ar) h hs (by rw [ck]; decide)
  obtain ⟨U1, u1, v1⟩ := push4_ok (U := (Jn ds.length, U.2)) hU.pop.2.2 (by omega) 101 56 158 157
  have hrun : RUN C mX 1 s ((Ls (i + 1)).1, (Ls (i + 1)).2, T', U1, (Jn op, 0, 0, o3), E) := by
    rw [e0]
    refine RUN.one (tokZ h hi h5) hU (act_153 (r15 := ((Ls (i + 1)).1, (Ls (i + 1)).2, T', U1)) ?_)
    unfold f_Model_cell
    rw [et, if_neg (by decide), if_neg (by decide), if_neg (by decide), if_neg (by decide), if_neg (by decide), if_neg (by decide), if_pos rfl, hf.2.1, d1, ob_some, u1, ob_some, a2]; rfl
  have o1 := a3 s T' U1 (Jn op, 0, 0, o3) E 1 (-29) 1 (fun i' s' => SP m kd pl vl p1 i' 0 op ∧ s' = ((Ls i').1, (Ls i').2, T', U1, (Jn op, 0, 0, o3), E) ∧ (len : Int) ≤ 2 * i' + (b - 2)) hrun (by omega) (by omega) (fun hs' => ⟨hs', rfl, by omega⟩)
  rw [ck] at a1
  rw [a1, ob_some]
  have cv : ∃ v, f_Parser_coilValue p1.2.1 = some v := by
    unfold f_Parser_coilValue
    repeat' split
    all_goals exact ⟨_, rfl⟩
  obtain ⟨v, hv⟩ := cv
  rw [hv, ob_some]
  obtain ⟨t1, B', b1, b2, b3, b4, b5⟩ := d5 (pl i) v
  rw [b1, ob_some]
  dsimp only
  rw [← b2]
  have hc : CL B B' := ⟨b3, b5⟩
  have fin : ∀ (r : S_Parser × S_Tree) (c F : Int), c ≤ -30 → F ≤ 5 → OK C mX m kd pl vl s i c F r.1 (ACC m kd pl vl Ls B' E op (101 :: ds) b r.1 r.2) → OK C mX m kd pl vl s i (-29) 5 r.1 (ACC m kd pl vl Ls B E op ds b r.1 r.2) := by
    intro r c F hc1 hF1 o
    obtain ⟨r', e', o'⟩ := o.seq (r := some r) (pr := fun r => r.1) (W' := fun r => ACC m kd pl vl Ls B E op ds b r.1 r.2) (c' := 1) (F' := 0) (fun i s _ hw => ⟨_, rfl, (up_acc h hc hw).mono (by omega) (by omega) (fun _ _ _ z => z)⟩) (fun i td hd => ⟨_, rfl, hd⟩)
    injection e' with e'
    subst e'
    exact o'.mono (by omega) (by omega) (fun _ _ _ z => z)
  have coilAct : ∀ i1, i1 < m → kd i1 ≠ 5 → p1.2.1 = kd i1 → ((v = 0 ∧ f_Model_coil C mX (Ls i1).1 (Ls i1).2 T' = some ((Ls i1).1, (Ls i1).2, setV T' z (pl i) v)) ∨ (v ≠ 0 ∧ kd i1 ≠ 4 ∧ ∀ r, f_Model_step C mX (Ls i1).1 (Ls i1).2 = some r → f_Model_coil C mX (Ls i1).1 (Ls i1).2 T' = some (r.1, r.2, setV T' z (pl i) v))) := by
    intro i1 hi1 h51 hk1
    have hf1 := tokF h hi1 h51
    have q66 := KM_iff hf1.1 (show ((47 : Int32), (66 : Int32)) ∈ KMT by decide)
    have q63 := KM_iff hf1.1 (show ((43 : Int32), (63 : Int32)) ∈ KMT by decide)
    have q64 := KM_iff hf1.1 (show ((45 : Int32), (64 : Int32)) ∈ KMT by decide)
    rw [hk1] at hv
    unfold f_Model_coil
    rw [d2, Jn_cl (by omega)]
    have sv : ∀ w, (T'.1, Jn z, T'.2.2.1, T'.2.2.2.1, upd T'.2.2.2.2.1 z w, T'.2.2.2.2.2) = setV T' z (pl i) w := by
      intro w
      have := setVal (v := w) d4
      rw [d2] at this
      exact this
    simp only [sv, gd_Jn d3 (show 20000 < 2147483648 by omega)]
    unfold f_Parser_coilValue at hv
    by_cases c47 : kd i1 = 47
    · rw [c47, if_neg (by decide), if_neg (by decide), if_neg (by decide), if_neg (by decide), if_pos rfl] at hv
      injection hv with hv
      right
      rw [if_pos (by rw [← q66]; exact c47), ← hv]
      refine ⟨by decide, by rw [c47]; decide, fun r hr => by rw [hr]; rfl⟩
    · by_cases c43 : kd i1 = 43
      · rw [c43, if_pos rfl] at hv
        injection hv with hv
        right
        rw [if_neg (by rw [← q66]; exact c47), if_pos (by rw [← q63]; exact c43), ← hv]
        refine ⟨by decide, by rw [c43]; decide, fun r hr => by rw [hr]; rfl⟩
      · by_cases c45 : kd i1 = 45
        · rw [c45, if_neg (by decide), if_neg (by decide), if_pos rfl] at hv
          injection hv with hv
          right
          rw [if_neg (by rw [← q66]; exact c47), if_neg (by rw [← q63]; exact c43), if_pos (by rw [← q64]; exact c45), ← hv]
          refine ⟨by decide, by rw [c45]; decide, fun r hr => by rw [hr]; rfl⟩
        · left
          rw [if_neg c43, if_neg c45, if_neg c47] at hv
          have hv0 : v = 0 := by
            by_cases c44 : kd i1 = 44
            · rw [if_pos c44] at hv; injection hv with hv; exact hv.symm
            · rw [if_neg c44] at hv
              by_cases c46 : kd i1 = 46
              · rw [if_pos c46] at hv; injection hv with hv; exact hv.symm
              · rw [if_neg c46] at hv; injection hv with hv; exact hv.symm
          rw [if_neg (by rw [← q66]; exact c47), if_neg (by rw [← q63]; exact c43), if_neg (by rw [← q64]; exact c45), hv0]
          exact ⟨rfl, rfl⟩
  by_cases cv0 : v = 0
  · rw [if_pos cv0]
    obtain ⟨r2, e2, o2⟩ := o1.seq (fun i1 s1 _ hw => by
      obtain ⟨hs1, rfl, hl1⟩ := hw
      obtain ⟨hi1, h51, _⟩ := id hs1
      rcases coilAct i1 hi1 h51 hs1.kind.1 with ⟨x1, x2⟩ | ⟨x1, _⟩
      · have oo : OK C mX m kd pl vl ((Ls i1).1, (Ls i1).2, T', U1, (Jn op, 0, 0, o3), E) i1 1 0 p1 (ACC m kd pl vl Ls B' E op (158 :: 56 :: 101 :: ds) (b - 1) p1 t1) :=
          Or.inl ⟨i1, _, 1, Nat.le_refl _, by omega, RUN.one (tokZ h hi1 h51) v1 (act_157 x2), hs1, h2, by simp only [List.length_cons]; omega, _, _, o3, len + 1, rfl, v1.pop.2.2, b4, by omega⟩
        exact oo.seq (fun i s _ hw => nameNode_acc (ar := ar) h (by omega) hw) (fun i td hd => dm_nameNode hd _ _ _)
      · exact absurd cv0 x1) (fun i td hd => dm_nameNode hd _ _ _)
    rw [e2, ob_some]
    obtain ⟨p3, e3, o3'⟩ := o2.seq (fun i s _ hw => pass_acc (ar := ar) (c := 41) h (by decide) (by decide) hw) (fun i td hd => dm_take hd _ 41 (by decide))
    rw [e3, ob_some]
    exact ⟨_, rfl, fin _ _ _ (by omega) (by omega) (o3'.mono (Int.le_refl _) (Int.le_refl _) (fun _ _ _ z => z.mono (by omega)))⟩
  · rw [if_neg cv0]
    have n5 : p1.2.1 ≠ 5 := by
      intro e
      rw [e] at hv
      exact cv0 (by injection hv with hv; exact hv.symm)
    obtain ⟨p2, e2, o2⟩ := o1.seq (r := f_Parser_take p1 (Jn m, ar, kd, pl, vl) p1.2.1) (pr := fun q => q) (W' := fun q => ACC m kd pl vl Ls B' E op (158 :: 56 :: 101 :: ds) (b - 3) q t1) (c' := -29) (F' := 1) (fun i1 s1 _ hw => by
      obtain ⟨hs1, rfl, hl1⟩ := hw
      obtain ⟨hi1, h51, _⟩ := id hs1
      rcases coilAct i1 hi1 h51 hs1.kind.1 with ⟨x1, x2⟩ | ⟨x1, x4, x2⟩
      · exact absurd x1 cv0
      · obtain ⟨q, y1, y2, y2', y3⟩ := adv (ar := ar) h hs1 x4
        rw [hs1.kind.1]
        refine ⟨q, y1, y3 _ (setV T' z (pl i) v) (Jn (158 :: 56 :: 101 :: ds).length, U1.2) (Jn op, 0, 0, o3) E 1 (-29) 1 _ (RUN.one (tokZ h hi1 h51) v1 (act_157 (x2 _ y2))) (by omega) (by omega) ?_⟩
        intro hs'
        exact ⟨hs', h2, by simp only [List.length_cons]; omega, _, _, o3, len + 1, rfl, v1.pop.2.2, b4, by omega⟩) (fun i td hd => dm_take hd _ _ n5)
    rw [e2, ob_some]
    obtain ⟨r3, e3, o3'⟩ := o2.seq (fun i s _ hw => nameNode_acc (ar := ar) h (by omega) hw) (fun i td hd => dm_nameNode hd _ _ _)
    rw [e3, ob_some]
    obtain ⟨p4, e4, o4⟩ := o3'.seq (fun i s _ hw => pass_acc (ar := ar) (c := 41) h (by decide) (by decide) hw) (fun i td hd => dm_take hd _ 41 (by decide))
    rw [e4, ob_some]
    exact ⟨_, rfl, fin _ _ _ (by omega) (by omega) (o4.mono (Int.le_refl _) (Int.le_refl _) (fun _ _ _ z => z.mono (by omega)))⟩
end
end
section
/-! Cells, rows, rungs and ladders. -/
section
variable {C : S_MC} {mX : S_MX} {m : Nat} {ar : Int32} {kd pl vl : Nat → Int32} {Ls : Nat → S_ML × S_MN}
/-- a contact with its sign, or none -/
theorem contact_acc (h : LX C mX m kd pl vl Ls) {B E op ds b p t i s} (hb : b ≤ 7) (hd : ds.length + 12 ≤ 200 + 20 * op) (hk : p.2.1 = 1 ∨ p.2.1 = 47 ∨ p.2.1 = 60 ∨ p.2.1 = 62) (hA : ACC m kd pl vl Ls B E op (153 :: ds) b p t i s) :
    ∃ r, f_Parser_contact p (Jn m, ar, kd, pl, vl) t (Jn B.2.1) = some r ∧ OK C mX m kd pl vl s i (-15) 8 r.1 (ACC m kd pl vl Ls B E op ds b r.1 r.2) := by
  have hop := hA.2.1
  obtain ⟨hi, h5, _⟩ := id hA.1
  have hf := tokF h hi h5
  obtain ⟨k1, k2, k3⟩ := hA.1.kind
  rw [k1] at hk
  have q80 := KM_iff hf.1 (show ((1 : Int32), (80 : Int32)) ∈ KMT by decide)
  have q66 := KM_iff hf.1 (show ((47 : Int32), (66 : Int32)) ∈ KMT by decide)
  have q68 := KM_iff hf.1 (show ((60 : Int32), (68 : Int32)) ∈ KMT by decide)
  have q69 := KM_iff hf.1 (show ((62 : Int32), (69 : Int32)) ∈ KMT by decide)
  unfold f_Parser_contact f_Parser_contactValue
  rw [k1, k2]
  have fin : ∀ (B' : BASE), CL B B' → ∀ (r : S_Parser × S_Tree) (c F : Int), c ≤ -16 → F ≤ 8 → OK C mX m kd pl vl s i c F r.1 (ACC m kd pl vl Ls B' E op (101 :: ds) b r.1 r.2) → OK C mX m kd pl vl s i (-15) 8 r.1 (ACC m kd pl vl Ls B E op ds b r.1 r.2) := by
    intro B' hc r c F hc1 hF1 o
    obtain ⟨r', e', o'⟩ := o.seq (r := some r) (pr := fun r => r.1) (W' := fun r => ACC m kd pl vl Ls B E op ds b r.1 r.2) (c' := 1) (F' := 0) (fun i s _ hw => ⟨_, rfl, (up_acc h hc hw).mono (by omega) (by omega) (fun _ _ _ z => z)⟩) (fun i td hd => ⟨_, rfl, hd⟩)
    injection e' with e'
    subst e'
    exact o'.mono (by omega) (by omega) (fun _ _ _ z => z)
  have signed : ∀ v : Int32, v ≠ 0 → kd i ≠ 4 → kd i ≠ 5 → (∀ T T' U o3, Stk 4000 U.1 U.2 ds → f_Model_down T 25 (pl i) v = some T' → f_Model_step C mX (Ls i).1 (Ls i).2 = some (Ls (i + 1)) → ∃ U', f_Model_act C mX (Ls i).1 (Ls i).2 T U (Jn op, 0, 0, o3) E 153 = some ((Ls (i + 1)).1, (Ls (i + 1)).2, T', U', (Jn op, 0, 0, o3), E) ∧ Stk 4000 U'.1 U'.2 (155 :: 101 :: ds)) →
      ∃ r, ((some v).bind fun r1 => (f_Tree_add t (Jn B.2.1) 25 (pl i) r1).bind fun r2 =>
        if r1 = 0 then (f_Parser_takeName p (Jn m, ar, kd, pl, vl)).bind fun r4 => if r4.2.2.1 = 46 then (f_Parser_take r4.2 (Jn m, ar, kd, pl, vl) 46).bind fun r7 => (f_Tree_add r2.2 r2.1 33 (pl i) r4.1).bind fun r8 => (f_Parser_nameNode r7 (Jn m, ar, kd, pl, vl) r8.2 r8.1).bind fun r9 => some (r9.1, r9.2) else (f_Tree_add r2.2 r2.1 6 (pl i) r4.1).bind fun r6 => some (r4.2, r6.2)
        else (f_Parser_take p (Jn m, ar, kd, pl, vl) (kd i)).bind fun r10 => (f_Parser_takeName r10 (Jn m, ar, kd, pl, vl)).bind fun r11 => if r11.2.2.1 = 46 then (f_Parser_take r11.2 (Jn m, ar, kd, pl, vl) 46).bind fun r14 => (f_Tree_add r2.2 r2.1 33 r10.2.2.1 r11.1).bind fun r15 => (f_Parser_nameNode r14 (Jn m, ar, kd, pl, vl) r15.2 r15.1).bind fun r16 => some (r16.1, r16.2) else (f_Tree_add r2.2 r2.1 6 r10.2.2.1 r11.1).bind fun r13 => some (r11.2, r13.2)) = some r ∧ OK C mX m kd pl vl s i (-15) 8 r.1 (ACC m kd pl vl Ls B E op ds b r.1 r.2) := by
    intro v hv h4 h5' hact
    obtain ⟨t1, p1, B', e1, e2, hc, o1⟩ := downAdv (ar := ar) h hA h4 (by omega) (ds' := 155 :: 101 :: ds) (by simp only [List.length_cons]; omega) 25 v hact
    rw [ob_some, e1, ob_some, if_neg hv, e2, ob_some]
    dsimp only
    obtain ⟨r3, e3, o3⟩ := o1.seq (fun i s _ hw => contact2_acc (ar := ar) h (by omega) (by simp only [List.length_cons]; omega) hw) (fun i td hd => dmb (dm_takeName hd _) fun r11 h11 => by
      rw [if_neg (h11.ne 46 (by decide) (by decide))]
      exact dma fun r => ⟨_, rfl, h11⟩)
    rw [e3]
    exact ⟨r3, rfl, fin B' hc r3 _ _ (by omega) (by omega) (o3.mono (Int.le_refl _) (Int.le_refl _) (fun _ _ _ z => z.mono (by omega)))⟩
  by_cases c47 : kd i = 47
  · rw [if_pos c47]
    refine signed 1 (by decide) (by rw [c47]; decide) h5 ?_
    intro T T' U o3 hU hl hst
    obtain ⟨U1, u1, v1⟩ := push2_ok hU (by omega) 101 155
    refine ⟨U1, act_153 (r15 := ((Ls (i + 1)).1, (Ls (i + 1)).2, T', U1)) ?_, v1⟩
    unfold f_Model_cell
    rw [if_pos (by rw [← q66]; exact c47), hf.2.1, hl, ob_some, u1, ob_some, hst]; rfl
  · rw [if_neg c47]
    by_cases c60 : kd i = 60
    · rw [if_pos c60]
      refine signed 3 (by decide) (by rw [c60]; decide) h5 ?_
      intro T T' U o3 hU hl hst
      obtain ⟨U1, u1, v1⟩ := push2_ok hU (by omega) 101 155
      refine ⟨U1, act_153 (r15 := ((Ls (i + 1)).1, (Ls (i + 1)).2, T', U1)) ?_, v1⟩
      unfold f_Model_cell
      rw [if_neg (by rw [← q66]; exact c47), if_neg (by rw [← q69, c60]; decide), if_pos (by rw [← q68]; exact c60), hf.2.1, hl, ob_some, u1, ob_some, hst]; rfl
    · rw [if_neg c60]
      by_cases c62 : kd i = 62
      · rw [if_pos c62]
        refine signed 2 (by decide) (by rw [c62]; decide) h5 ?_
        intro T T' U o3 hU hl hst
        obtain ⟨U1, u1, v1⟩ := push2_ok hU (by omega) 101 155
        refine ⟨U1, act_153 (r15 := ((Ls (i + 1)).1, (Ls (i + 1)).2, T', U1)) ?_, v1⟩
        unfold f_Model_cell
        rw [if_neg (by rw [← q66]; exact c47), if_pos (by rw [← q69]; exact c62), hf.2.1, hl, ob_some, u1, ob_some, hst]; rfl
      · rw [if_neg c62, ob_some]
        have c1 : kd i = 1 := ((hk.resolve_right (fun x => by rcases x with x | x | x; exact c47 x; exact c60 x; exact c62 x)))
        obtain ⟨t1, B', e1, hc, o1⟩ := downStay h hA (by omega) (ds' := 155 :: 101 :: ds) (by simp only [List.length_cons]; omega) 25 (pl i) 0 (by
          intro T T' U o3 hU hl
          obtain ⟨U1, u1, v1⟩ := push2_ok hU (by omega) 101 155
          refine ⟨U1, act_153 (r15 := ((Ls i).1, (Ls i).2, T', U1)) ?_, v1⟩
          unfold f_Model_cell
          rw [if_neg (by rw [← q66]; exact c47), if_neg (by rw [← q69]; exact c62), if_neg (by rw [← q68]; exact c60), if_pos (by rw [← q80]; exact c1), hf.2.1, hl, ob_some, u1]; rfl)
        rw [e1, ob_some, if_pos rfl]
        dsimp only
        obtain ⟨r3, e3, o3⟩ := o1.seq (fun i s _ hw => contact2_acc (ar := ar) h (by omega) (by simp only [List.length_cons]; omega) hw) (fun i td hd => dmb (dm_takeName hd _) fun r11 h11 => by
          rw [if_neg (h11.ne 46 (by decide) (by decide))]
          exact dma fun r => ⟨_, rfl, h11⟩)
        rw [k2] at e3
        rw [e3]
        exact ⟨r3, rfl, fin B' hc r3 _ _ (by omega) (by omega) (o3.mono (Int.le_refl _) (Int.le_refl _) (fun _ _ _ z => z.mono (by omega)))⟩
theorem cell_acc (h : LX C mX m kd pl vl Ls) {B E op ds b p t i s} (hb : b ≤ 7) (hd : ds.length + 12 ≤ 200 + 20 * op) (hA : ACC m kd pl vl Ls B E op (153 :: ds) b p t i s) :
    ∃ r, f_Parser_cell p (Jn m, ar, kd, pl, vl) t (Jn B.2.1) = some r ∧ OK C mX m kd pl vl s i (-15) 8 r.1 (ACC m kd pl vl Ls B E op ds b r.1 r.2) := by
  have hop := hA.2.1
  obtain ⟨hi, h5, _⟩ := id hA.1
  have hf := tokF h hi h5
  obtain ⟨k1, k2, k3⟩ := hA.1.kind
  have h3 := hA.2.2.1
  rw [List.length_cons] at h3
  have q80 := KM_iff hf.1 (show ((1 : Int32), (80 : Int32)) ∈ KMT by decide)
  have q66 := KM_iff hf.1 (show ((47 : Int32), (66 : Int32)) ∈ KMT by decide)
  have q68 := KM_iff hf.1 (show ((60 : Int32), (68 : Int32)) ∈ KMT by decide)
  have q69 := KM_iff hf.1 (show ((62 : Int32), (69 : Int32)) ∈ KMT by decide)
  have q55 := KM_iff hf.1 (show ((40 : Int32), (55 : Int32)) ∈ KMT by decide)
  have q64 := KM_iff hf.1 (show ((45 : Int32), (64 : Int32)) ∈ KMT by decide)
  have q65 := KM_iff hf.1 (show ((42 : Int32), (65 : Int32)) ∈ KMT by decide)
  have cont : (p.2.1 = 1 ∨ p.2.1 = 47 ∨ p.2.1 = 60 ∨ p.2.1 = 62) → ∃ r, ((f_Parser_contact p (Jn m, ar, kd, pl, vl) t (Jn B.2.1)).bind fun r2 => some (r2.1, r2.2)) = some r ∧ OK C mX m kd pl vl s i (-15) 8 r.1 (ACC m kd pl vl Ls B E op ds b r.1 r.2) := by
    intro hk
    obtain ⟨r, e, o⟩ := contact_acc (ar := ar) h hb hd hk hA
    rw [e, ob_some]
    exact ⟨r, rfl, o⟩
  unfold f_Parser_cell
  by_cases c1 : p.2.1 = 1
  · rw [if_pos c1]; exact cont (Or.inl c1)
  · rw [if_neg c1]
    by_cases c40 : p.2.1 = 40
    · rw [if_pos c40]
      obtain ⟨r, e, o⟩ := coil_acc (ar := ar) h (by omega) (by omega) c40 hA
      rw [e, ob_some]
      exact ⟨r, rfl, o.mono (by omega) (by omega) (fun _ _ _ z => z.mono (by omega))⟩
    · rw [if_neg c40]
      by_cases c42 : p.2.1 = 42
      · rw [if_pos c42]
        have d42 : kd i = 42 := by rw [← k1]; exact c42
        obtain ⟨n', t', p', a1, a2, a3⟩ := leafAdv (ar := ar) h hA (by rw [d42]; decide) (by omega) (ds' := ds) (by omega) 27 0 (by
          intro T T' U o3 hU hl hst
          refine ⟨U, act_153 (r15 := ((Ls (i + 1)).1, (Ls (i + 1)).2, T', U)) ?_, hU⟩
          unfold f_Model_cell
          have et : (Ls i).1.2.1 = 65 := by rw [← q65]; exact d42
          rw [et, if_neg (by decide), if_neg (by decide), if_neg (by decide), if_neg (by decide), if_neg (by decide), if_pos rfl, if_neg (by decide), hf.2.1, hl, ob_some, hst]; rfl)
        rw [d42] at a2
        rw [k2, a1, ob_some, a2, ob_some]
        exact ⟨_, rfl, a3.mono (by omega) (by omega) (fun _ _ _ z => z.mono (by omega))⟩
      · rw [if_neg c42]
        by_cases c45 : p.2.1 = 45
        · rw [if_pos c45]
          have d45 : kd i = 45 := by rw [← k1]; exact c45
          obtain ⟨n', t', p', a1, a2, a3⟩ := leafAdv (ar := ar) h hA (by rw [d45]; decide) (by omega) (ds' := ds) (by omega) 26 0 (by
            intro T T' U o3 hU hl hst
            refine ⟨U, act_153 (r15 := ((Ls (i + 1)).1, (Ls (i + 1)).2, T', U)) ?_, hU⟩
            unfold f_Model_cell
            have et : (Ls i).1.2.1 = 64 := by rw [← q64]; exact d45
            rw [et, if_neg (by decide), if_neg (by decide), if_neg (by decide), if_neg (by decide), if_pos rfl, if_pos rfl, hf.2.1, hl, ob_some, hst]; rfl)
          rw [d45] at a2
          rw [k2, a1, ob_some, a2, ob_some]
          exact ⟨_, rfl, a3.mono (by omega) (by omega) (fun _ _ _ z => z.mono (by omega))⟩
        · rw [if_neg c45]
          by_cases c47 : p.2.1 = 47
          · rw [if_pos c47]; exact cont (Or.inr (Or.inl c47))
          · rw [if_neg c47]
            by_cases c60 : p.2.1 = 60
            · rw [if_pos c60]; exact cont (Or.inr (Or.inr (Or.inl c60)))
            · rw [if_neg c60]
              by_cases c62 : p.2.1 = 62
              · rw [if_pos c62]; exact cont (Or.inr (Or.inr (Or.inr c62)))
              · rw [if_neg c62]
                refine ⟨_, rfl, ?_⟩
                rw [k1] at c1 c40 c42 c45 c47 c60 c62
                have := wrongAct h hA (W := ACC m kd pl vl Ls B E op ds b (p.1, 6, p.2.2) t) (by
                  intro T U o3 w hw
                  refine act_153 (r15 := (w, (Ls i).2, T, U)) ?_
                  unfold f_Model_cell
                  rw [if_neg (by rw [← q66]; exact c47), if_neg (by rw [← q69]; exact c62), if_neg (by rw [← q68]; exact c60), if_neg (by rw [← q80]; exact c1), if_neg (by rw [← q64]; exact c45), if_neg (by rw [← q65]; exact c42), if_neg (by rw [← q55]; exact c40), hw]; rfl)
                exact this.mono (by omega) (by omega) (fun _ _ _ z => z)
end
end

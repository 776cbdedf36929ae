set_option maxHeartbeats 4000000 in
set_option maxRecDepth 100000 in
theorem c_Model_actStatement (l : Launch) (D : va_G) (cI : ClassId) (sd : Nat → Nat) (ad : Nat → Nat) (o_E : S_ME) (o_Q : S_MQ) (o_V : S_MV) (o_I : S_MI) (o_C : S_MC) (o_X : S_MX) (o_L : S_ML) (o_N : S_MN) (o_T : S_MT) (o_U : S_MU) (o_O : S_MO) (a1 : Int32) (res : S_ML × S_MN × S_MT × S_MU × S_MO) (hM : f_Model_actStatement o_C o_X o_L o_N o_T o_U o_O a1 = some res) : Ctr l D cI sd yX8_actStatement (wsM yX8_actStatement cX8_actStatement 2 (Option.none : Option Jvm.ClassFile.FieldType)) { frames := 9, cells := 0, slots := 0, locals := 195 } [.ref (ad 100), .int a1] (wM_CXLNTUO cI ad o_X o_L o_N o_T o_U o_O o_E o_Q o_V o_I o_C) (wM_CXLNTUO cI ad o_X res.1 res.2.1 res.2.2.1 res.2.2.2.1 res.2.2.2.2 o_E o_Q o_V o_I o_C) none := by
  refine Ctr.of (cc := cX8_actStatement) (maxL := 2) (own := RX8) (by decide +kernel) rfl rfl (Nat.le_of_ble_eq_true rfl) ?_
  intro p e s m below meth c A ls hx hb hr hml hown hts hlk hK hE hA hP hD hS hl
  have hl : lv_has ls 2 [(0, .ref (ad 100)), (1, .int a1)] := hl
  unfold f_Model_actStatement at hM
  refine lv_iload_n hx hb dX8_actStatement_0 rfl (lv_at hl 1 rfl) ?_
  by_cases c1 : a1 = 115
  · replace hM := if_t c1 hM
    refine lv_tableIn (tgt := 88) hx hb dX8_actStatement_1 (by rw [c1]; decide) (by rw [c1]; decide) (by rw [c1]; rfl) (by decide) ?_
    refine lv_aload_n hx hb dX8_actStatement_88 rfl (lv_at hl 0 rfl) ?_
    obtain ⟨r2, hcr2, hM⟩ := ob_use hM
    refine cl_V (As := []) (rest := []) (wM_CXLNTUO cI ad o_X r2.1 r2.2.1 r2.2.2.1 r2.2.2.2.1 r2.2.2.2.2 o_E o_Q o_V o_I o_C) [] ⟨hx, hb, hml, hown, hts⟩ (c_Model_statements l D cI sd ad o_E o_Q o_V o_I o_C o_X o_L o_N o_T o_U o_O r2 hcr2) (cwV2 hts q1313 mvX8_statements rfl rfl ⟨(Nat.le_of_ble_eq_true rfl), (Nat.le_of_ble_eq_true rfl)⟩) hK hE hA hP hD hS 0 (T := TX8) (N := 48) (ci := 8) rfl rfl [0, 1, 2, 3, 4, 5, 6, 7, 8, 9, 10, 11, 12, 13, 14, 15] (rng_hi (n := 16) rfl rfl) (by decide) (rng_rep (n := 16) rfl rfl rfl) rfl rfl rfl rfl rfl hl.1 (Nat.le_of_ble_eq_true rfl) dX8_actStatement_89 ⟨Nat.zero_le _, Nat.zero_le _⟩ (fun H locs hP hD hS => ?_)
    refine lv_goto (tgt := 285) hx hb dX8_actStatement_92 (by decide) ?_
    cases hM
    exact rt_v hx hb hr hlk hP hD hS rfl dX8_actStatement_285
  replace hM := if_f c1 hM
  by_cases c3 : a1 = 116
  · replace hM := if_t c3 hM
    refine lv_tableIn (tgt := 95) hx hb dX8_actStatement_1 (by rw [c3]; decide) (by rw [c3]; decide) (by rw [c3]; rfl) (by decide) ?_
    refine lv_aload_n hx hb dX8_actStatement_95 rfl (lv_at hl 0 rfl) ?_
    obtain ⟨r4, hcr4, hM⟩ := ob_use hM
    refine cl_V (As := []) (rest := []) (wM_CXLNTUO cI ad o_X r4.1 r4.2.1 r4.2.2.1 r4.2.2.2.1 r4.2.2.2.2 o_E o_Q o_V o_I o_C) [] ⟨hx, hb, hml, hown, hts⟩ (c_Model_behindName l D cI sd ad o_E o_Q o_V o_I o_C o_X o_L o_N o_T o_U o_O r4 hcr4) (cwV2 hts q1333 mvX8_behindName rfl rfl ⟨(Nat.le_of_ble_eq_true rfl), (Nat.le_of_ble_eq_true rfl)⟩) hK hE hA hP hD hS 0 (T := TX8) (N := 48) (ci := 8) rfl rfl [0, 1, 2, 3, 4, 5, 6, 7, 8, 9, 10, 11, 12, 13, 14, 15] (rng_hi (n := 16) rfl rfl) (by decide) (rng_rep (n := 16) rfl rfl rfl) rfl rfl rfl rfl rfl hl.1 (Nat.le_of_ble_eq_true rfl) dX8_actStatement_96 ⟨Nat.zero_le _, Nat.zero_le _⟩ (fun H locs hP hD hS => ?_)
    refine lv_goto (tgt := 285) hx hb dX8_actStatement_99 (by decide) ?_
    cases hM
    exact rt_v hx hb hr hlk hP hD hS rfl dX8_actStatement_285
  replace hM := if_f c3 hM
  by_cases c5 : a1 = 117
  · replace hM := if_t c5 hM
    refine lv_tableIn (tgt := 102) hx hb dX8_actStatement_1 (by rw [c5]; decide) (by rw [c5]; decide) (by rw [c5]; rfl) (by decide) ?_
    refine lv_aload_n hx hb dX8_actStatement_102 rfl (lv_at hl 0 rfl) ?_
    obtain ⟨r6, hcr6, hM⟩ := ob_use hM
    refine cl_V (As := []) (rest := []) (wM_CXLNTUO cI ad o_X r6.1 r6.2.1 r6.2.2.1 r6.2.2.2 o_O o_E o_Q o_V o_I o_C) [] ⟨hx, hb, hml, hown, hts⟩ (c_Model_ifRest l D cI sd ad o_O o_E o_Q o_V o_I o_C o_X o_L o_N o_T o_U r6 hcr6) (cwV2 hts q1337 mvX8_ifRest rfl rfl ⟨(Nat.le_of_ble_eq_true rfl), (Nat.le_of_ble_eq_true rfl)⟩) hK hE hA hP hD hS 0 (T := TX8) (N := 48) (ci := 8) rfl rfl [0, 1, 2, 3, 4, 5, 6, 7, 8, 9, 10, 11, 12, 13, 14, 15] (rng_hi (n := 16) rfl rfl) (by decide) (rng_rep (n := 16) rfl rfl rfl) rfl rfl rfl rfl rfl hl.1 (Nat.le_of_ble_eq_true rfl) dX8_actStatement_103 ⟨Nat.zero_le _, Nat.zero_le _⟩ (fun H locs hP hD hS => ?_)
    refine lv_goto (tgt := 285) hx hb dX8_actStatement_106 (by decide) ?_
    cases hM
    exact rt_v hx hb hr hlk hP hD hS rfl dX8_actStatement_285
  replace hM := if_f c5 hM
  by_cases c7 : a1 = 118
  · replace hM := if_t c7 hM
    refine lv_tableIn (tgt := 109) hx hb dX8_actStatement_1 (by rw [c7]; decide) (by rw [c7]; decide) (by rw [c7]; rfl) (by decide) ?_
    refine lv_aload_n hx hb dX8_actStatement_109 rfl (lv_at hl 0 rfl) ?_
    refine lv_dup hx hb dX8_actStatement_110 rfl ?_
    refine va_get (D := D) (ci := 8) (v := .int o_O.1) (C := RX8) (T := TX8) (N := 48) hx hb hts layX8 hown hK hP 0 rfl rfl 27 (by decide) (hts _ (inA q1005)) (fun _ h9 => h9) rfl dX8_actStatement_111 ?_
    refine lv_iconst (v := 1) hx hb dX8_actStatement_114 (by decide) ?_
    refine lv_isub hx hb dX8_actStatement_115 ?_
    refine va_put (D := D) (ci := 8) (v := .int (o_O.1 - 1)) (ty := .int) (C := RX8) (T := TX8) (N := 48) hx hb hts layX8 tyX8 tyX8_ok nmX8 hown hK hP hD hS 0 rfl rfl 27 (by decide) (hts _ (inA q1005)) (fun _ h9 => h9) rfl (by decide +kernel) rfl rfl (Nat.le_of_ble_eq_true rfl) dX8_actStatement_116 (fun H locs hP hD hS => ?_)
    have hP : va_P D vwCl (wM_CXLNTUO cI ad o_X o_L o_N o_T o_U (o_O.1 - 1, o_O.2) o_E o_Q o_V o_I o_C) H := hP
    have hD : va_D A (wM_CXLNTUO cI ad o_X o_L o_N o_T o_U (o_O.1 - 1, o_O.2) o_E o_Q o_V o_I o_C) := hD
    refine lv_aload_n hx hb dX8_actStatement_119 rfl (lv_at hl 0 rfl) ?_
    obtain ⟨r8, hcr8, hM⟩ := ob_use hM
    refine cl_V (As := []) (rest := []) (wM_CXLNTUO cI ad o_X o_L o_N r8 o_U (o_O.1 - 1, o_O.2) o_E o_Q o_V o_I o_C) [] ⟨hx, hb, hml, hown, hts⟩ (c_Model_up l D cI sd ad o_C o_X o_L o_N o_U (o_O.1 - 1, o_O.2) o_E o_Q o_V o_I o_T r8 hcr8) (cwV2 hts q1261 mvX8_up rfl rfl ⟨(Nat.le_of_ble_eq_true rfl), (Nat.le_of_ble_eq_true rfl)⟩) hK hE hA hP hD hS 0 (T := TX8) (N := 48) (ci := 8) rfl rfl [0, 8, 9, 10, 11, 12, 13, 14] rfl (by decide) (mrgE rfl rfl) rfl rfl rfl rfl rfl hl.1 (Nat.le_of_ble_eq_true rfl) dX8_actStatement_120 ⟨Nat.zero_le _, Nat.zero_le _⟩ (fun H locs hP hD hS => ?_)
    refine lv_goto (tgt := 285) hx hb dX8_actStatement_123 (by decide) ?_
    cases hM
    exact rt_v hx hb hr hlk hP hD hS rfl dX8_actStatement_285
  replace hM := if_f c7 hM
  by_cases c9 : a1 = 119
  · replace hM := if_t c9 hM
    refine lv_tableIn (tgt := 126) hx hb dX8_actStatement_1 (by rw [c9]; decide) (by rw [c9]; decide) (by rw [c9]; rfl) (by decide) ?_
    refine lv_aload_n hx hb dX8_actStatement_126 rfl (lv_at hl 0 rfl) ?_
    refine lv_bipush (v := 17) hx hb dX8_actStatement_127 (by decide) ?_
    obtain ⟨r10, hcr10, hM⟩ := ob_use hM
    refine cl_V (As := [.int 17]) (rest := []) (wM_CXLNTUO cI ad o_X r10.1 r10.2.1 r10.2.2.1 r10.2.2.2 o_O o_E o_Q o_V o_I o_C) [] ⟨hx, hb, hml, hown, hts⟩ (c_Model_bodyBehind l D cI sd ad o_O o_E o_Q o_V o_I o_C o_X o_L o_N o_T o_U 17 r10 hcr10) (cwV2 hts q1345 mvX8_bodyBehind rfl rfl ⟨(Nat.le_of_ble_eq_true rfl), (Nat.le_of_ble_eq_true rfl)⟩) hK hE hA hP hD hS 0 (T := TX8) (N := 48) (ci := 8) rfl rfl [0, 1, 2, 3, 4, 5, 6, 7, 8, 9, 10, 11, 12, 13, 14, 15] (rng_hi (n := 16) rfl rfl) (by decide) (rng_rep (n := 16) rfl rfl rfl) rfl rfl rfl rfl rfl hl.1 (Nat.le_of_ble_eq_true rfl) dX8_actStatement_129 ⟨Nat.zero_le _, Nat.zero_le _⟩ (fun H locs hP hD hS => ?_)
    refine lv_goto (tgt := 285) hx hb dX8_actStatement_132 (by decide) ?_
    cases hM
    exact rt_v hx hb hr hlk hP hD hS rfl dX8_actStatement_285
  replace hM := if_f c9 hM
  by_cases c11 : a1 = 120
  · replace hM := if_t c11 hM
    refine lv_tableIn (tgt := 135) hx hb dX8_actStatement_1 (by rw [c11]; decide) (by rw [c11]; decide) (by rw [c11]; rfl) (by decide) ?_
    refine lv_aload_n hx hb dX8_actStatement_135 rfl (lv_at hl 0 rfl) ?_
    obtain ⟨r12, hcr12, hM⟩ := ob_use hM
    refine cl_V (As := []) (rest := []) (wM_CXLNTUO cI ad o_X r12.1 r12.2.1 r12.2.2.1 r12.2.2.2 o_O o_E o_Q o_V o_I o_C) [] ⟨hx, hb, hml, hown, hts⟩ (c_Model_elseBody l D cI sd ad o_O o_E o_Q o_V o_I o_C o_X o_L o_N o_T o_U r12 hcr12) (cwV2 hts q1341 mvX8_elseBody rfl rfl ⟨(Nat.le_of_ble_eq_true rfl), (Nat.le_of_ble_eq_true rfl)⟩) hK hE hA hP hD hS 0 (T := TX8) (N := 48) (ci := 8) rfl rfl [0, 1, 2, 3, 4, 5, 6, 7, 8, 9, 10, 11, 12, 13, 14, 15] (rng_hi (n := 16) rfl rfl) (by decide) (rng_rep (n := 16) rfl rfl rfl) rfl rfl rfl rfl rfl hl.1 (Nat.le_of_ble_eq_true rfl) dX8_actStatement_136 ⟨Nat.zero_le _, Nat.zero_le _⟩ (fun H locs hP hD hS => ?_)
    refine lv_goto (tgt := 285) hx hb dX8_actStatement_139 (by decide) ?_
    cases hM
    exact rt_v hx hb hr hlk hP hD hS rfl dX8_actStatement_285
  replace hM := if_f c11 hM
  by_cases c13 : a1 = 121
  · replace hM := if_t c13 hM
    refine lv_tableIn (tgt := 142) hx hb dX8_actStatement_1 (by rw [c13]; decide) (by rw [c13]; decide) (by rw [c13]; rfl) (by decide) ?_
    refine lv_aload_n hx hb dX8_actStatement_142 rfl (lv_at hl 0 rfl) ?_
    obtain ⟨r14, hcr14, hM⟩ := ob_use hM
    refine cl_V (As := []) (rest := []) (wM_CXLNTUO cI ad o_X o_L o_N r14.1 r14.2 o_O o_E o_Q o_V o_I o_C) [] ⟨hx, hb, hml, hown, hts⟩ (c_Model_choices l D cI sd ad o_C o_X o_N o_O o_E o_Q o_V o_I o_L o_T o_U r14 hcr14) (cwV2 hts q1349 mvX8_choices rfl rfl ⟨(Nat.le_of_ble_eq_true rfl), (Nat.le_of_ble_eq_true rfl)⟩) hK hE hA hP hD hS 0 (T := TX8) (N := 48) (ci := 8) rfl rfl [0, 8, 9, 10, 11, 12, 13, 14, 15] rfl (by decide) (mrgE rfl rfl) rfl rfl rfl rfl rfl hl.1 (Nat.le_of_ble_eq_true rfl) dX8_actStatement_143 ⟨Nat.zero_le _, Nat.zero_le _⟩ (fun H locs hP hD hS => ?_)
    refine lv_goto (tgt := 285) hx hb dX8_actStatement_146 (by decide) ?_
    cases hM
    exact rt_v hx hb hr hlk hP hD hS rfl dX8_actStatement_285
  replace hM := if_f c13 hM
  by_cases c15 : a1 = 122
  · replace hM := if_t c15 hM
    refine lv_tableIn (tgt := 149) hx hb dX8_actStatement_1 (by rw [c15]; decide) (by rw [c15]; decide) (by rw [c15]; rfl) (by decide) ?_
    refine lv_aload_n hx hb dX8_actStatement_149 rfl (lv_at hl 0 rfl) ?_
    refine lv_bipush (v := 61) hx hb dX8_actStatement_150 (by decide) ?_
    obtain ⟨r16, hcr16, hM⟩ := ob_use hM
    refine cl_V (As := [.int 61]) (rest := []) (wM_CXLNTUO cI ad o_X r16.1 r16.2.1 r16.2.2.1 r16.2.2.2 o_O o_E o_Q o_V o_I o_C) [] ⟨hx, hb, hml, hown, hts⟩ (c_Model_bodyBehind l D cI sd ad o_O o_E o_Q o_V o_I o_C o_X o_L o_N o_T o_U 61 r16 hcr16) (cwV2 hts q1345 mvX8_bodyBehind rfl rfl ⟨(Nat.le_of_ble_eq_true rfl), (Nat.le_of_ble_eq_true rfl)⟩) hK hE hA hP hD hS 0 (T := TX8) (N := 48) (ci := 8) rfl rfl [0, 1, 2, 3, 4, 5, 6, 7, 8, 9, 10, 11, 12, 13, 14, 15] (rng_hi (n := 16) rfl rfl) (by decide) (rng_rep (n := 16) rfl rfl rfl) rfl rfl rfl rfl rfl hl.1 (Nat.le_of_ble_eq_true rfl) dX8_actStatement_152 ⟨Nat.zero_le _, Nat.zero_le _⟩ (fun H locs hP hD hS => ?_)
    refine lv_goto (tgt := 285) hx hb dX8_actStatement_155 (by decide) ?_
    cases hM
    exact rt_v hx hb hr hlk hP hD hS rfl dX8_actStatement_285
  replace hM := if_f c15 hM
  by_cases c17 : a1 = 123
  · replace hM := if_t c17 hM
    refine lv_tableIn (tgt := 158) hx hb dX8_actStatement_1 (by rw [c17]; decide) (by rw [c17]; decide) (by rw [c17]; rfl) (by decide) ?_
    refine lv_aload_n hx hb dX8_actStatement_158 rfl (lv_at hl 0 rfl) ?_
    obtain ⟨r18, hcr18, hM⟩ := ob_use hM
    refine cl_V (As := []) (rest := []) (wM_CXLNTUO cI ad o_X o_L o_N r18.1 r18.2 o_O o_E o_Q o_V o_I o_C) [] ⟨hx, hb, hml, hown, hts⟩ (c_Model_range l D cI sd ad o_C o_X o_N o_O o_E o_Q o_V o_I o_L o_T o_U r18 hcr18) (cwV2 hts q1357 mvX8_range rfl rfl ⟨(Nat.le_of_ble_eq_true rfl), (Nat.le_of_ble_eq_true rfl)⟩) hK hE hA hP hD hS 0 (T := TX8) (N := 48) (ci := 8) rfl rfl [0, 8, 9, 10, 11, 12, 13, 14, 15] rfl (by decide) (mrgE rfl rfl) rfl rfl rfl rfl rfl hl.1 (Nat.le_of_ble_eq_true rfl) dX8_actStatement_159 ⟨Nat.zero_le _, Nat.zero_le _⟩ (fun H locs hP hD hS => ?_)
    refine lv_goto (tgt := 285) hx hb dX8_actStatement_162 (by decide) ?_
    cases hM
    exact rt_v hx hb hr hlk hP hD hS rfl dX8_actStatement_285
  replace hM := if_f c17 hM
  by_cases c19 : a1 = 124
  · replace hM := if_t c19 hM
    refine lv_tableIn (tgt := 165) hx hb dX8_actStatement_1 (by rw [c19]; decide) (by rw [c19]; decide) (by rw [c19]; rfl) (by decide) ?_
    refine lv_aload_n hx hb dX8_actStatement_165 rfl (lv_at hl 0 rfl) ?_
    refine lv_bipush (v := 59) hx hb dX8_actStatement_166 (by decide) ?_
    refine lv_bipush (v := 124) hx hb dX8_actStatement_168 (by decide) ?_
    refine lv_bipush (v := 123) hx hb dX8_actStatement_170 (by decide) ?_
    obtain ⟨r20, hcr20, hM⟩ := ob_use hM
    refine cl_V (As := [.int 59, .int 124, .int 123]) (rest := []) (wM_CXLNTUO cI ad o_X r20.1 r20.2.1 o_T r20.2.2 o_O o_E o_Q o_V o_I o_C) [] ⟨hx, hb, hml, hown, hts⟩ (c_Model_perhaps l D cI sd ad o_T o_O o_E o_Q o_V o_I o_C o_X o_L o_N o_U 59 124 123 r20 hcr20) (cwV2 hts q1293 mvX8_perhaps rfl rfl ⟨(Nat.le_of_ble_eq_true rfl), (Nat.le_of_ble_eq_true rfl)⟩) hK hE hA hP hD hS 0 (T := TX8) (N := 48) (ci := 8) rfl rfl [0, 1, 2, 3, 4, 5, 6, 7, 15] rfl (by decide) (mrgE rfl rfl) rfl rfl rfl rfl rfl hl.1 (Nat.le_of_ble_eq_true rfl) dX8_actStatement_172 ⟨Nat.zero_le _, Nat.zero_le _⟩ (fun H locs hP hD hS => ?_)
    refine lv_goto (tgt := 285) hx hb dX8_actStatement_175 (by decide) ?_
    cases hM
    exact rt_v hx hb hr hlk hP hD hS rfl dX8_actStatement_285
  replace hM := if_f c19 hM
  by_cases c21 : a1 = 125
  · replace hM := if_t c21 hM
    refine lv_tableIn (tgt := 178) hx hb dX8_actStatement_1 (by rw [c21]; decide) (by rw [c21]; decide) (by rw [c21]; rfl) (by decide) ?_
    refine lv_aload_n hx hb dX8_actStatement_178 rfl (lv_at hl 0 rfl) ?_
    refine lv_bipush (v := 51) hx hb dX8_actStatement_179 (by decide) ?_
    refine lv_iconst (v := (-1)) hx hb dX8_actStatement_181 (by decide) ?_
    refine lv_bipush (v := 113) hx hb dX8_actStatement_182 (by decide) ?_
    obtain ⟨r22, hcr22, hM⟩ := ob_use hM
    refine cl_V (As := [.int 51, .int (-1), .int 113]) (rest := []) (wM_CXLNTUO cI ad o_X r22.1 r22.2.1 o_T r22.2.2 o_O o_E o_Q o_V o_I o_C) [] ⟨hx, hb, hml, hown, hts⟩ (c_Model_perhaps l D cI sd ad o_T o_O o_E o_Q o_V o_I o_C o_X o_L o_N o_U 51 (-1) 113 r22 hcr22) (cwV2 hts q1293 mvX8_perhaps rfl rfl ⟨(Nat.le_of_ble_eq_true rfl), (Nat.le_of_ble_eq_true rfl)⟩) hK hE hA hP hD hS 0 (T := TX8) (N := 48) (ci := 8) rfl rfl [0, 1, 2, 3, 4, 5, 6, 7, 15] rfl (by decide) (mrgE rfl rfl) rfl rfl rfl rfl rfl hl.1 (Nat.le_of_ble_eq_true rfl) dX8_actStatement_184 ⟨Nat.zero_le _, Nat.zero_le _⟩ (fun H locs hP hD hS => ?_)
    refine lv_goto (tgt := 285) hx hb dX8_actStatement_187 (by decide) ?_
    cases hM
    exact rt_v hx hb hr hlk hP hD hS rfl dX8_actStatement_285
  replace hM := if_f c21 hM
  by_cases c23 : a1 = 126
  · replace hM := if_t c23 hM
    refine lv_tableIn (tgt := 190) hx hb dX8_actStatement_1 (by rw [c23]; decide) (by rw [c23]; decide) (by rw [c23]; rfl) (by decide) ?_
    refine lv_aload_n hx hb dX8_actStatement_190 rfl (lv_at hl 0 rfl) ?_
    refine lv_bipush (v := 26) hx hb dX8_actStatement_191 (by decide) ?_
    obtain ⟨r24, hcr24, hM⟩ := ob_use hM
    refine cl_V (As := [.int 26]) (rest := []) (wM_CXLNTUO cI ad o_X r24.1 r24.2.1 r24.2.2.1 r24.2.2.2 o_O o_E o_Q o_V o_I o_C) [] ⟨hx, hb, hml, hown, hts⟩ (c_Model_bodyBehind l D cI sd ad o_O o_E o_Q o_V o_I o_C o_X o_L o_N o_T o_U 26 r24 hcr24) (cwV2 hts q1345 mvX8_bodyBehind rfl rfl ⟨(Nat.le_of_ble_eq_true rfl), (Nat.le_of_ble_eq_true rfl)⟩) hK hE hA hP hD hS 0 (T := TX8) (N := 48) (ci := 8) rfl rfl [0, 1, 2, 3, 4, 5, 6, 7, 8, 9, 10, 11, 12, 13, 14, 15] (rng_hi (n := 16) rfl rfl) (by decide) (rng_rep (n := 16) rfl rfl rfl) rfl rfl rfl rfl rfl hl.1 (Nat.le_of_ble_eq_true rfl) dX8_actStatement_193 ⟨Nat.zero_le _, Nat.zero_le _⟩ (fun H locs hP hD hS => ?_)
    refine lv_goto (tgt := 285) hx hb dX8_actStatement_196 (by decide) ?_
    cases hM
    exact rt_v hx hb hr hlk hP hD hS rfl dX8_actStatement_285
  replace hM := if_f c23 hM
  by_cases c25 : a1 = 127
  · replace hM := if_t c25 hM
    refine lv_tableIn (tgt := 199) hx hb dX8_actStatement_1 (by rw [c25]; decide) (by rw [c25]; decide) (by rw [c25]; rfl) (by decide) ?_
    refine lv_aload_n hx hb dX8_actStatement_199 rfl (lv_at hl 0 rfl) ?_
    refine lv_bipush (v := 25) hx hb dX8_actStatement_200 (by decide) ?_
    refine lv_iconst (v := (-1)) hx hb dX8_actStatement_202 (by decide) ?_
    refine lv_bipush (v := 113) hx hb dX8_actStatement_203 (by decide) ?_
    obtain ⟨r26, hcr26, hM⟩ := ob_use hM
    refine cl_V (As := [.int 25, .int (-1), .int 113]) (rest := []) (wM_CXLNTUO cI ad o_X r26.1 r26.2.1 o_T r26.2.2 o_O o_E o_Q o_V o_I o_C) [] ⟨hx, hb, hml, hown, hts⟩ (c_Model_perhaps l D cI sd ad o_T o_O o_E o_Q o_V o_I o_C o_X o_L o_N o_U 25 (-1) 113 r26 hcr26) (cwV2 hts q1293 mvX8_perhaps rfl rfl ⟨(Nat.le_of_ble_eq_true rfl), (Nat.le_of_ble_eq_true rfl)⟩) hK hE hA hP hD hS 0 (T := TX8) (N := 48) (ci := 8) rfl rfl [0, 1, 2, 3, 4, 5, 6, 7, 15] rfl (by decide) (mrgE rfl rfl) rfl rfl rfl rfl rfl hl.1 (Nat.le_of_ble_eq_true rfl) dX8_actStatement_205 ⟨Nat.zero_le _, Nat.zero_le _⟩ (fun H locs hP hD hS => ?_)
    refine lv_goto (tgt := 285) hx hb dX8_actStatement_208 (by decide) ?_
    cases hM
    exact rt_v hx hb hr hlk hP hD hS rfl dX8_actStatement_285
  replace hM := if_f c25 hM
  by_cases c27 : a1 = 128
  · replace hM := if_t c27 hM
    refine lv_tableIn (tgt := 211) hx hb dX8_actStatement_1 (by rw [c27]; decide) (by rw [c27]; decide) (by rw [c27]; rfl) (by decide) ?_
    refine lv_aload_n hx hb dX8_actStatement_211 rfl (lv_at hl 0 rfl) ?_
    obtain ⟨r28, hcr28, hM⟩ := ob_use hM
    refine cl_V (As := []) (rest := []) (wM_CXLNTUO cI ad o_X r28.1 r28.2.1 r28.2.2 o_U o_O o_E o_Q o_V o_I o_C) [] ⟨hx, hb, hml, hown, hts⟩ (c_Model_assign l D cI sd ad o_U o_O o_E o_Q o_V o_I o_C o_X o_L o_N o_T r28 hcr28) (cwV2 hts q1361 mvX8_assign rfl rfl ⟨(Nat.le_of_ble_eq_true rfl), (Nat.le_of_ble_eq_true rfl)⟩) hK hE hA hP hD hS 0 (T := TX8) (N := 48) (ci := 8) rfl rfl [0, 1, 2, 3, 4, 5, 6, 7, 8, 9, 10, 11, 12, 13, 14] rfl (by decide) (mrgE rfl rfl) rfl rfl rfl rfl rfl hl.1 (Nat.le_of_ble_eq_true rfl) dX8_actStatement_212 ⟨Nat.zero_le _, Nat.zero_le _⟩ (fun H locs hP hD hS => ?_)
    refine lv_goto (tgt := 285) hx hb dX8_actStatement_215 (by decide) ?_
    cases hM
    exact rt_v hx hb hr hlk hP hD hS rfl dX8_actStatement_285
  replace hM := if_f c27 hM
  by_cases c29 : a1 = 129
  · replace hM := if_t c29 hM
    refine lv_tableIn (tgt := 218) hx hb dX8_actStatement_1 (by rw [c29]; decide) (by rw [c29]; decide) (by rw [c29]; rfl) (by decide) ?_
    refine lv_aload_n hx hb dX8_actStatement_218 rfl (lv_at hl 0 rfl) ?_
    obtain ⟨r30, hcr30, hM⟩ := ob_use hM
    refine cl_V (As := []) (rest := []) (wM_CXLNTUO cI ad o_X r30.1 r30.2.1 r30.2.2.1 o_U r30.2.2.2 o_E o_Q o_V o_I o_C) [] ⟨hx, hb, hml, hown, hts⟩ (c_Model_indexEnd l D cI sd ad o_U o_E o_Q o_V o_I o_C o_X o_L o_N o_T o_O r30 hcr30) (cwV2 hts q1365 mvX8_indexEnd rfl rfl ⟨(Nat.le_of_ble_eq_true rfl), (Nat.le_of_ble_eq_true rfl)⟩) hK hE hA hP hD hS 0 (T := TX8) (N := 48) (ci := 8) rfl rfl [0, 1, 2, 3, 4, 5, 6, 7, 8, 9, 10, 11, 12, 13, 14] rfl (by decide) (mrgE rfl rfl) rfl rfl rfl rfl rfl hl.1 (Nat.le_of_ble_eq_true rfl) dX8_actStatement_219 ⟨Nat.zero_le _, Nat.zero_le _⟩ (fun H locs hP hD hS => ?_)
    refine lv_goto (tgt := 285) hx hb dX8_actStatement_222 (by decide) ?_
    cases hM
    exact rt_v hx hb hr hlk hP hD hS rfl dX8_actStatement_285
  replace hM := if_f c29 hM
  by_cases c31 : a1 = 130
  · replace hM := if_t c31 hM
    refine lv_tableIn (tgt := 225) hx hb dX8_actStatement_1 (by rw [c31]; decide) (by rw [c31]; decide) (by rw [c31]; rfl) (by decide) ?_
    refine lv_aload_n hx hb dX8_actStatement_225 rfl (lv_at hl 0 rfl) ?_
    refine lv_dup hx hb dX8_actStatement_226 rfl ?_
    refine va_get (D := D) (ci := 8) (v := .int o_O.1) (C := RX8) (T := TX8) (N := 48) hx hb hts layX8 hown hK hP 0 rfl rfl 27 (by decide) (hts _ (inA q1005)) (fun _ h9 => h9) rfl dX8_actStatement_227 ?_
    refine lv_iconst (v := 1) hx hb dX8_actStatement_230 (by decide) ?_
    refine lv_isub hx hb dX8_actStatement_231 ?_
    refine va_put (D := D) (ci := 8) (v := .int (o_O.1 - 1)) (ty := .int) (C := RX8) (T := TX8) (N := 48) hx hb hts layX8 tyX8 tyX8_ok nmX8 hown hK hP hD hS 0 rfl rfl 27 (by decide) (hts _ (inA q1005)) (fun _ h9 => h9) rfl (by decide +kernel) rfl rfl (Nat.le_of_ble_eq_true rfl) dX8_actStatement_232 (fun H locs hP hD hS => ?_)
    have hP : va_P D vwCl (wM_CXLNTUO cI ad o_X o_L o_N o_T o_U (o_O.1 - 1, o_O.2) o_E o_Q o_V o_I o_C) H := hP
    have hD : va_D A (wM_CXLNTUO cI ad o_X o_L o_N o_T o_U (o_O.1 - 1, o_O.2) o_E o_Q o_V o_I o_C) := hD
    refine lv_aload_n hx hb dX8_actStatement_235 rfl (lv_at hl 0 rfl) ?_
    refine lv_bipush (v := 56) hx hb dX8_actStatement_236 (by decide) ?_
    obtain ⟨r32, hcr32, hM⟩ := ob_use hM
    refine cl_V (As := [.int 56]) (rest := []) (wM_CXLNTUO cI ad o_X r32.1 r32.2 o_T o_U (o_O.1 - 1, o_O.2) o_E o_Q o_V o_I o_C) [] ⟨hx, hb, hml, hown, hts⟩ (c_Model_pass l D cI sd ad o_T o_U (o_O.1 - 1, o_O.2) o_E o_Q o_V o_I o_C o_X o_L o_N 56 r32 hcr32) (cwV2 hts q1229 mvX8_pass rfl rfl ⟨(Nat.le_of_ble_eq_true rfl), (Nat.le_of_ble_eq_true rfl)⟩) hK hE hA hP hD hS 0 (T := TX8) (N := 48) (ci := 8) rfl rfl [0, 1, 2, 3, 4, 5, 6, 7] rfl (by decide) (mrgE rfl rfl) rfl rfl rfl rfl rfl hl.1 (Nat.le_of_ble_eq_true rfl) dX8_actStatement_238 ⟨Nat.zero_le _, Nat.zero_le _⟩ (fun H locs hP hD hS => ?_)
    refine lv_goto (tgt := 285) hx hb dX8_actStatement_241 (by decide) ?_
    cases hM
    exact rt_v hx hb hr hlk hP hD hS rfl dX8_actStatement_285
  replace hM := if_f c31 hM
  by_cases c33 : a1 = 131
  · replace hM := if_t c33 hM
    refine lv_tableIn (tgt := 244) hx hb dX8_actStatement_1 (by rw [c33]; decide) (by rw [c33]; decide) (by rw [c33]; rfl) (by decide) ?_
    refine lv_aload_n hx hb dX8_actStatement_244 rfl (lv_at hl 0 rfl) ?_
    refine va_get (D := D) (ci := 8) (v := .int o_L.2.1) (C := RX8) (T := TX8) (N := 48) hx hb hts layX8 hown hK hP 0 rfl rfl 7 (by decide) (hts _ (inA q985)) (fun _ h9 => h9) rfl dX8_actStatement_245 ?_
    refine lv_bipush (v := 80) hx hb dX8_actStatement_248 (by decide) ?_
    refine lv_icmp_ne (tgt := 285) hx hb dX8_actStatement_250 (by decide) (fun c34 => ?_) (fun c34 => ?_)
    · replace hM := if_f c34 hM
      cases hM
      exact rt_v hx hb hr hlk hP hD hS rfl dX8_actStatement_285
    · replace hM := if_t c34 hM
      refine lv_aload_n hx hb dX8_actStatement_253 rfl (lv_at hl 0 rfl) ?_
      refine lv_sipush (v := 133) hx hb dX8_actStatement_254 (by decide) ?_
      refine lv_sipush (v := 132) hx hb dX8_actStatement_257 (by decide) ?_
      obtain ⟨r35, hcr35, hM⟩ := ob_use hM
      refine cl_V (As := [.int 133, .int 132]) (rest := []) (wM_CXLNTUO cI ad o_X o_L o_N o_T r35 o_O o_E o_Q o_V o_I o_C) [] ⟨hx, hb, hml, hown, hts⟩ (c_Model_push2 l D cI sd ad o_C o_X o_L o_N o_T o_O o_E o_Q o_V o_I o_U 133 132 r35 hcr35) (cwV2 hts q1257 mvX8_push2 rfl rfl ⟨(Nat.le_of_ble_eq_true rfl), (Nat.le_of_ble_eq_true rfl)⟩) hK hE hA hP hD hS 0 (T := TX8) (N := 48) (ci := 8) rfl rfl [0, 15] rfl (by decide) rfl rfl rfl rfl rfl rfl hl.1 (Nat.le_of_ble_eq_true rfl) dX8_actStatement_260 ⟨Nat.zero_le _, Nat.zero_le _⟩ (fun H locs hP hD hS => ?_)
      refine lv_goto (tgt := 285) hx hb dX8_actStatement_263 (by decide) ?_
      cases hM
      exact rt_v hx hb hr hlk hP hD hS rfl dX8_actStatement_285
  replace hM := if_f c33 hM
  by_cases c36 : a1 = 132
  · replace hM := if_t c36 hM
    refine lv_tableIn (tgt := 266) hx hb dX8_actStatement_1 (by rw [c36]; decide) (by rw [c36]; decide) (by rw [c36]; rfl) (by decide) ?_
    refine lv_aload_n hx hb dX8_actStatement_266 rfl (lv_at hl 0 rfl) ?_
    obtain ⟨r37, hcr37, hM⟩ := ob_use hM
    refine cl_V (As := []) (rest := []) (wM_CXLNTUO cI ad o_X r37.1 r37.2.1 r37.2.2.1 r37.2.2.2 o_O o_E o_Q o_V o_I o_C) [] ⟨hx, hb, hml, hown, hts⟩ (c_Model_parameter l D cI sd ad o_O o_E o_Q o_V o_I o_C o_X o_L o_N o_T o_U r37 hcr37) (cwV2 hts q1369 mvX8_parameter rfl rfl ⟨(Nat.le_of_ble_eq_true rfl), (Nat.le_of_ble_eq_true rfl)⟩) hK hE hA hP hD hS 0 (T := TX8) (N := 48) (ci := 8) rfl rfl [0, 1, 2, 3, 4, 5, 6, 7, 8, 9, 10, 11, 12, 13, 14, 15] (rng_hi (n := 16) rfl rfl) (by decide) (rng_rep (n := 16) rfl rfl rfl) rfl rfl rfl rfl rfl hl.1 (Nat.le_of_ble_eq_true rfl) dX8_actStatement_267 ⟨Nat.zero_le _, Nat.zero_le _⟩ (fun H locs hP hD hS => ?_)
    refine lv_goto (tgt := 285) hx hb dX8_actStatement_270 (by decide) ?_
    cases hM
    exact rt_v hx hb hr hlk hP hD hS rfl dX8_actStatement_285
  replace hM := if_f c36 hM
  refine lv_tableOut (tgt := 273) hx hb dX8_actStatement_1 (by have := lv_neT c1 (show (115 : Int32).toInt = 115 by decide); have := lv_neT c3 (show (116 : Int32).toInt = 116 by decide); have := lv_neT c5 (show (117 : Int32).toInt = 117 by decide); have := lv_neT c7 (show (118 : Int32).toInt = 118 by decide); have := lv_neT c9 (show (119 : Int32).toInt = 119 by decide); have := lv_neT c11 (show (120 : Int32).toInt = 120 by decide); have := lv_neT c13 (show (121 : Int32).toInt = 121 by decide); have := lv_neT c15 (show (122 : Int32).toInt = 122 by decide); have := lv_neT c17 (show (123 : Int32).toInt = 123 by decide); have := lv_neT c19 (show (124 : Int32).toInt = 124 by decide); have := lv_neT c21 (show (125 : Int32).toInt = 125 by decide); have := lv_neT c23 (show (126 : Int32).toInt = 126 by decide); have := lv_neT c25 (show (127 : Int32).toInt = 127 by decide); have := lv_neT c27 (show (128 : Int32).toInt = 128 by decide); have := lv_neT c29 (show (129 : Int32).toInt = 129 by decide); have := lv_neT c31 (show (130 : Int32).toInt = 130 by decide); have := lv_neT c33 (show (131 : Int32).toInt = 131 by decide); have := lv_neT c36 (show (132 : Int32).toInt = 132 by decide); omega) (by decide) ?_
  refine lv_aload_n hx hb dX8_actStatement_273 rfl (lv_at hl 0 rfl) ?_
  refine lv_bipush (v := 59) hx hb dX8_actStatement_274 (by decide) ?_
  refine lv_sipush (v := 133) hx hb dX8_actStatement_276 (by decide) ?_
  refine lv_sipush (v := 132) hx hb dX8_actStatement_279 (by decide) ?_
  obtain ⟨r38, hcr38, hM⟩ := ob_use hM
  refine cl_V (As := [.int 59, .int 133, .int 132]) (rest := []) (wM_CXLNTUO cI ad o_X r38.1 r38.2.1 o_T r38.2.2 o_O o_E o_Q o_V o_I o_C) [] ⟨hx, hb, hml, hown, hts⟩ (c_Model_perhaps l D cI sd ad o_T o_O o_E o_Q o_V o_I o_C o_X o_L o_N o_U 59 133 132 r38 hcr38) (cwV2 hts q1293 mvX8_perhaps rfl rfl ⟨(Nat.le_of_ble_eq_true rfl), (Nat.le_of_ble_eq_true rfl)⟩) hK hE hA hP hD hS 0 (T := TX8) (N := 48) (ci := 8) rfl rfl [0, 1, 2, 3, 4, 5, 6, 7, 15] rfl (by decide) (mrgE rfl rfl) rfl rfl rfl rfl rfl hl.1 (Nat.le_of_ble_eq_true rfl) dX8_actStatement_282 ⟨Nat.zero_le _, Nat.zero_le _⟩ (fun H locs hP hD hS => ?_)
  cases hM
  exact rt_v hx hb hr hlk hP hD hS rfl dX8_actStatement_285

set_option maxHeartbeats 4000000 in
set_option maxRecDepth 100000 in
theorem c_Model_pushArgument (l : Launch) (D : va_G) (cI : ClassId) (sd : Nat → Nat) (ad : Nat → Nat) (o_C : S_MC) (o_X : S_MX) (o_L : S_ML) (o_N : S_MN) (o_T : S_MT) (o_O : S_MO) (o_E : S_ME) (o_Q : S_MQ) (o_V : S_MV) (o_I : S_MI) (o_U : S_MU) (res : S_MU) (hM : f_Model_pushArgument o_U = some res) : Ctr l D cI sd yX8_pushArgument (wsM yX8_pushArgument cX8_pushArgument 1 (Option.none : Option Jvm.ClassFile.FieldType)) { frames := 2, cells := 0, slots := 0, locals := 43 } [.ref (ad 100)] (wM_U cI ad o_X o_L o_N o_T o_U o_O o_E o_Q o_V o_I) (wM_U cI ad o_X o_L o_N o_T res o_O o_E o_Q o_V o_I) none := by
  refine Ctr.of (cc := cX8_pushArgument) (maxL := 1) (own := RX8) (by decide +kernel) rfl rfl (Nat.le_of_ble_eq_true rfl) ?_
  intro p e s m below meth c A ls hx hb hr hml hown hts hlk hK hE hA hP hD hS hl
  have hl : lv_has ls 1 [(0, .ref (ad 100))] := hl
  unfold f_Model_pushArgument at hM
  refine lv_aload_n hx hb dX8_pushArgument_0 rfl (lv_at hl 0 rfl) ?_
  refine lv_sipush (v := 144) hx hb dX8_pushArgument_1 (by decide) ?_
  refine lv_sipush (v := 145) hx hb dX8_pushArgument_4 (by decide) ?_
  obtain ⟨r1, hcr1, hM⟩ := ob_use hM
  refine cl_V (As := [.int 144, .int 145]) (rest := []) (wM_U cI ad o_X o_L o_N o_T r1 o_O o_E o_Q o_V o_I) [] ⟨hx, hb, hml, hown, hts⟩ (c_Model_push2 l D cI sd ad o_C o_X o_L o_N o_T o_O o_E o_Q o_V o_I o_U 144 145 r1 hcr1) (cwV2 hts q1257 mvX8_push2 rfl rfl ⟨(Nat.le_of_ble_eq_true rfl), (Nat.le_of_ble_eq_true rfl)⟩) hK hE hA hP hD hS 0 (T := TX8) (N := 48) (ci := 8) rfl rfl [0, 1] rfl (by decide) rfl rfl rfl rfl rfl rfl hl.1 (Nat.le_of_ble_eq_true rfl) dX8_pushArgument_7 ⟨Nat.zero_le _, Nat.zero_le _⟩ (fun H locs hP hD hS => ?_)
  refine lv_aload_n hx hb dX8_pushArgument_10 rfl (lv_at hl 0 rfl) ?_
  refine lv_sipush (v := 134) hx hb dX8_pushArgument_11 (by decide) ?_
  obtain ⟨r2, hcr2, hM⟩ := ob_use hM
  refine cl_V (As := [.int 134]) (rest := []) (wM_U cI ad o_X o_L o_N o_T r2 o_O o_E o_Q o_V o_I) [] ⟨hx, hb, hml, hown, hts⟩ (c_Model_push l D cI sd ad o_C o_X o_L o_N o_T o_O o_E o_Q o_V o_I r1 134 r2 hcr2) (cwV2 hts q1147 mvX8_push rfl rfl ⟨(Nat.le_of_ble_eq_true rfl), (Nat.le_of_ble_eq_true rfl)⟩) hK hE hA hP hD hS 0 (T := TX8) (N := 48) (ci := 8) rfl rfl [0, 1] rfl (by decide) rfl rfl rfl rfl rfl rfl hl.1 (Nat.le_of_ble_eq_true rfl) dX8_pushArgument_14 ⟨Nat.zero_le _, Nat.zero_le _⟩ (fun H locs hP hD hS => ?_)
  cases hM
  exact rt_v hx hb hr hlk hP hD hS rfl dX8_pushArgument_17

set_option maxHeartbeats 4000000 in
set_option maxRecDepth 100000 in
theorem c_Model_actOperand (l : Launch) (D : va_G) (cI : ClassId) (sd : Nat → Nat) (ad : Nat → Nat) (o_Q : S_MQ) (o_V : S_MV) (o_I : S_MI) (o_C : S_MC) (o_X : S_MX) (o_L : S_ML) (o_N : S_MN) (o_T : S_MT) (o_U : S_MU) (o_O : S_MO) (o_E : S_ME) (a1 : Int32) (res : S_ML × S_MN × S_MT × S_MU × S_MO × S_ME) (hM : f_Model_actOperand o_C o_X o_L o_N o_T o_U o_O o_E a1 = some res) : Ctr l D cI sd yX8_actOperand (wsM yX8_actOperand cX8_actOperand 2 (Option.none : Option Jvm.ClassFile.FieldType)) { frames := 7, cells := 0, slots := 0, locals := 153 } [.ref (ad 100), .int a1] (wM_CXLNTUOE cI ad o_X o_L o_N o_T o_U o_O o_E o_Q o_V o_I o_C) (wM_CXLNTUOE cI ad o_X res.1 res.2.1 res.2.2.1 res.2.2.2.1 res.2.2.2.2.1 res.2.2.2.2.2 o_Q o_V o_I o_C) none := by
  refine Ctr.of (cc := cX8_actOperand) (maxL := 2) (own := RX8) (by decide +kernel) rfl rfl (Nat.le_of_ble_eq_true rfl) ?_
  intro p e s m below meth c A ls hx hb hr hml hown hts hlk hK hE hA hP hD hS hl
  have hl : lv_has ls 2 [(0, .ref (ad 100)), (1, .int a1)] := hl
  unfold f_Model_actOperand at hM
  refine lv_iload_n hx hb dX8_actOperand_0 rfl (lv_at hl 1 rfl) ?_
  by_cases c1 : a1 = 134
  · replace hM := if_t c1 hM
    refine lv_tableIn (tgt := 60) hx hb dX8_actOperand_1 (by rw [c1]; decide) (by rw [c1]; decide) (by rw [c1]; rfl) (by decide) ?_
    refine lv_aload_n hx hb dX8_actOperand_60 rfl (lv_at hl 0 rfl) ?_
    obtain ⟨r2, hcr2, hM⟩ := ob_use hM
    refine cl_V (As := []) (rest := []) (wM_CXLNTUOE cI ad o_X o_L o_N o_T r2.1 r2.2.1 r2.2.2 o_Q o_V o_I o_C) [] ⟨hx, hb, hml, hown, hts⟩ (c_Model_expression l D cI sd ad o_C o_X o_L o_N o_T o_Q o_V o_I o_U o_O o_E r2 hcr2) (cwV2 hts q1377 mvX8_expression rfl rfl ⟨(Nat.le_of_ble_eq_true rfl), (Nat.le_of_ble_eq_true rfl)⟩) hK hE hA hP hD hS 0 (T := TX8) (N := 48) (ci := 8) rfl rfl [0, 15, 16, 17, 18, 19] rfl (by decide) (mrgE rfl rfl) rfl rfl rfl rfl rfl hl.1 (Nat.le_of_ble_eq_true rfl) dX8_actOperand_61 ⟨Nat.zero_le _, Nat.zero_le _⟩ (fun H locs hP hD hS => ?_)
    refine lv_goto (tgt := 169) hx hb dX8_actOperand_64 (by decide) ?_
    cases hM
    exact rt_v hx hb hr hlk hP hD hS rfl dX8_actOperand_169
  replace hM := if_f c1 hM
  by_cases c3 : a1 = 135
  · replace hM := if_t c3 hM
    refine lv_tableIn (tgt := 67) hx hb dX8_actOperand_1 (by rw [c3]; decide) (by rw [c3]; decide) (by rw [c3]; rfl) (by decide) ?_
    refine lv_aload_n hx hb dX8_actOperand_67 rfl (lv_at hl 0 rfl) ?_
    obtain ⟨r4, hcr4, hM⟩ := ob_use hM
    refine cl_V (As := []) (rest := []) (wM_CXLNTUOE cI ad o_X r4.1 r4.2.1 r4.2.2.1 r4.2.2.2.1 r4.2.2.2.2.1 r4.2.2.2.2.2 o_Q o_V o_I o_C) [] ⟨hx, hb, hml, hown, hts⟩ (c_Model_anOperand l D cI sd ad o_Q o_V o_I o_C o_X o_L o_N o_T o_U o_O o_E r4 hcr4) (cwV2 hts q1385 mvX8_anOperand rfl rfl ⟨(Nat.le_of_ble_eq_true rfl), (Nat.le_of_ble_eq_true rfl)⟩) hK hE hA hP hD hS 0 (T := TX8) (N := 48) (ci := 8) rfl rfl [0, 1, 2, 3, 4, 5, 6, 7, 8, 9, 10, 11, 12, 13, 14, 15, 16, 17, 18, 19] (rng_hi (n := 20) rfl rfl) (by decide) (rng_rep (n := 20) rfl rfl rfl) rfl rfl rfl rfl rfl hl.1 (Nat.le_of_ble_eq_true rfl) dX8_actOperand_68 ⟨Nat.zero_le _, Nat.zero_le _⟩ (fun H locs hP hD hS => ?_)
    refine lv_goto (tgt := 169) hx hb dX8_actOperand_71 (by decide) ?_
    cases hM
    exact rt_v hx hb hr hlk hP hD hS rfl dX8_actOperand_169
  replace hM := if_f c3 hM
  by_cases c5 : a1 = 136
  · replace hM := if_t c5 hM
    refine lv_tableIn (tgt := 74) hx hb dX8_actOperand_1 (by rw [c5]; decide) (by rw [c5]; decide) (by rw [c5]; rfl) (by decide) ?_
    refine lv_aload_n hx hb dX8_actOperand_74 rfl (lv_at hl 0 rfl) ?_
    obtain ⟨r6, hcr6, hM⟩ := ob_use hM
    refine cl_V (As := []) (rest := []) (wM_CXLNTUOE cI ad o_X r6.1 r6.2.1 r6.2.2.1 r6.2.2.2.1 r6.2.2.2.2.1 r6.2.2.2.2.2 o_Q o_V o_I o_C) [] ⟨hx, hb, hml, hown, hts⟩ (c_Model_signRest l D cI sd ad o_Q o_V o_I o_C o_X o_L o_N o_T o_U o_O o_E r6 hcr6) (cwV2 hts q1405 mvX8_signRest rfl rfl ⟨(Nat.le_of_ble_eq_true rfl), (Nat.le_of_ble_eq_true rfl)⟩) hK hE hA hP hD hS 0 (T := TX8) (N := 48) (ci := 8) rfl rfl [0, 1, 2, 3, 4, 5, 6, 7, 8, 9, 10, 11, 12, 13, 14, 15, 16, 17, 18, 19] (rng_hi (n := 20) rfl rfl) (by decide) (rng_rep (n := 20) rfl rfl rfl) rfl rfl rfl rfl rfl hl.1 (Nat.le_of_ble_eq_true rfl) dX8_actOperand_75 ⟨Nat.zero_le _, Nat.zero_le _⟩ (fun H locs hP hD hS => ?_)
    refine lv_goto (tgt := 169) hx hb dX8_actOperand_78 (by decide) ?_
    cases hM
    exact rt_v hx hb hr hlk hP hD hS rfl dX8_actOperand_169
  replace hM := if_f c5 hM
  by_cases c7 : a1 = 137
  · replace hM := if_t c7 hM
    refine lv_tableIn (tgt := 81) hx hb dX8_actOperand_1 (by rw [c7]; decide) (by rw [c7]; decide) (by rw [c7]; rfl) (by decide) ?_
    refine lv_aload_n hx hb dX8_actOperand_81 rfl (lv_at hl 0 rfl) ?_
    refine lv_aload_n hx hb dX8_actOperand_82 rfl (lv_at hl 0 rfl) ?_
    obtain ⟨r8, hcr8, hM⟩ := ob_use hM
    refine cl_V (As := []) (rest := [.ref (ad 100)]) (wM_CXLNTUOE cI ad o_X o_L o_N o_T o_U o_O r8.2 o_Q o_V o_I o_C) (.int r8.1 :: [.ref (ad 100)]) ⟨hx, hb, hml, hown, hts⟩ (c_Model_takeOperand l D cI sd ad o_C o_X o_L o_N o_T o_U o_O o_Q o_V o_I o_E r8 hcr8) (cwV2 hts q1401 mvX8_takeOperand rfl rfl ⟨(Nat.le_of_ble_eq_true rfl), (Nat.le_of_ble_eq_true rfl)⟩) hK hE hA hP hD hS 0 (T := TX8) (N := 48) (ci := 8) rfl rfl [0, 16, 17, 18, 19] rfl (by decide) (mrgE rfl rfl) rfl rfl rfl rfl rfl hl.1 (Nat.le_of_ble_eq_true rfl) dX8_actOperand_83 ⟨Nat.zero_le _, Nat.zero_le _⟩ (fun H locs hP hD hS => ?_)
    refine lv_aload_n hx hb dX8_actOperand_86 rfl (lv_at hl 0 rfl) ?_
    refine va_get (D := D) (ci := 8) (v := .int o_T.2.1) (C := RX8) (T := TX8) (N := 48) hx hb hts layX8 hown hK hP 0 rfl rfl 24 (by decide) (hts _ (inA q1002)) (fun _ h9 => h9) rfl dX8_actOperand_87 ?_
    obtain ⟨r9, hcr9, hM⟩ := ob_use hM
    refine cl_V (As := [.int r8.1, .int o_T.2.1]) (rest := []) (wM_CXLNTUOE cI ad o_X o_L o_N r9 o_U o_O r8.2 o_Q o_V o_I o_C) [] ⟨hx, hb, hml, hown, hts⟩ (c_Model_hang l D cI sd ad o_C o_X o_L o_N o_U o_O r8.2 o_Q o_V o_I o_T r8.1 o_T.2.1 r9 hcr9) (cwV2 hts q1249 mvX8_hang rfl rfl ⟨(Nat.le_of_ble_eq_true rfl), (Nat.le_of_ble_eq_true rfl)⟩) hK hE hA hP hD hS 0 (T := TX8) (N := 48) (ci := 8) rfl rfl [0, 8, 9, 10, 11, 12, 13, 14] rfl (by decide) (mrgE rfl rfl) rfl rfl rfl rfl rfl hl.1 (Nat.le_of_ble_eq_true rfl) dX8_actOperand_90 ⟨Nat.zero_le _, Nat.zero_le _⟩ (fun H locs hP hD hS => ?_)
    refine lv_goto (tgt := 169) hx hb dX8_actOperand_93 (by decide) ?_
    cases hM
    exact rt_v hx hb hr hlk hP hD hS rfl dX8_actOperand_169
  replace hM := if_f c7 hM
  by_cases c10 : a1 = 138
  · replace hM := if_t c10 hM
    refine lv_tableIn (tgt := 96) hx hb dX8_actOperand_1 (by rw [c10]; decide) (by rw [c10]; decide) (by rw [c10]; rfl) (by decide) ?_
    refine lv_aload_n hx hb dX8_actOperand_96 rfl (lv_at hl 0 rfl) ?_
    obtain ⟨r11, hcr11, hM⟩ := ob_use hM
    refine cl_V (As := []) (rest := []) (wM_CXLNTUOE cI ad o_X r11.1 r11.2.1 r11.2.2.1 o_U r11.2.2.2.1 r11.2.2.2.2 o_Q o_V o_I o_C) [] ⟨hx, hb, hml, hown, hts⟩ (c_Model_groupEnd l D cI sd ad o_U o_Q o_V o_I o_C o_X o_L o_N o_T o_O o_E r11 hcr11) (cwV2 hts q1416 mvX8_groupEnd rfl rfl ⟨(Nat.le_of_ble_eq_true rfl), (Nat.le_of_ble_eq_true rfl)⟩) hK hE hA hP hD hS 0 (T := TX8) (N := 48) (ci := 8) rfl rfl [0, 1, 2, 3, 4, 5, 6, 7, 8, 9, 10, 11, 12, 13, 14, 16, 17, 18, 19] rfl (by decide) (mrgE rfl rfl) rfl rfl rfl rfl rfl hl.1 (Nat.le_of_ble_eq_true rfl) dX8_actOperand_97 ⟨Nat.zero_le _, Nat.zero_le _⟩ (fun H locs hP hD hS => ?_)
    refine lv_goto (tgt := 169) hx hb dX8_actOperand_100 (by decide) ?_
    cases hM
    exact rt_v hx hb hr hlk hP hD hS rfl dX8_actOperand_169
  replace hM := if_f c10 hM
  by_cases c12 : a1 = 139
  · replace hM := if_t c12 hM
    refine lv_tableIn (tgt := 103) hx hb dX8_actOperand_1 (by rw [c12]; decide) (by rw [c12]; decide) (by rw [c12]; rfl) (by decide) ?_
    refine lv_aload_n hx hb dX8_actOperand_103 rfl (lv_at hl 0 rfl) ?_
    obtain ⟨r13, hcr13, hM⟩ := ob_use hM
    refine cl_V (As := []) (rest := []) (wM_CXLNTUOE cI ad o_X r13.1 r13.2.1 r13.2.2.1 r13.2.2.2.1 r13.2.2.2.2.1 r13.2.2.2.2.2 o_Q o_V o_I o_C) [] ⟨hx, hb, hml, hown, hts⟩ (c_Model_behindOperand l D cI sd ad o_Q o_V o_I o_C o_X o_L o_N o_T o_U o_O o_E r13 hcr13) (cwV2 hts q1420 mvX8_behindOperand rfl rfl ⟨(Nat.le_of_ble_eq_true rfl), (Nat.le_of_ble_eq_true rfl)⟩) hK hE hA hP hD hS 0 (T := TX8) (N := 48) (ci := 8) rfl rfl [0, 1, 2, 3, 4, 5, 6, 7, 8, 9, 10, 11, 12, 13, 14, 15, 16, 17, 18, 19] (rng_hi (n := 20) rfl rfl) (by decide) (rng_rep (n := 20) rfl rfl rfl) rfl rfl rfl rfl rfl hl.1 (Nat.le_of_ble_eq_true rfl) dX8_actOperand_104 ⟨Nat.zero_le _, Nat.zero_le _⟩ (fun H locs hP hD hS => ?_)
    refine lv_goto (tgt := 169) hx hb dX8_actOperand_107 (by decide) ?_
    cases hM
    exact rt_v hx hb hr hlk hP hD hS rfl dX8_actOperand_169
  replace hM := if_f c12 hM
  by_cases c14 : a1 = 140
  · replace hM := if_t c14 hM
    refine lv_tableIn (tgt := 110) hx hb dX8_actOperand_1 (by rw [c14]; decide) (by rw [c14]; decide) (by rw [c14]; rfl) (by decide) ?_
    refine lv_aload_n hx hb dX8_actOperand_110 rfl (lv_at hl 0 rfl) ?_
    obtain ⟨r15, hcr15, hM⟩ := ob_use hM
    refine cl_V (As := []) (rest := []) (wM_CXLNTUOE cI ad o_X r15.1 r15.2.1 r15.2.2.1 o_U r15.2.2.2.1 r15.2.2.2.2 o_Q o_V o_I o_C) [] ⟨hx, hb, hml, hown, hts⟩ (c_Model_elementEnd l D cI sd ad o_U o_Q o_V o_I o_C o_X o_L o_N o_T o_O o_E r15 hcr15) (cwV2 hts q1428 mvX8_elementEnd rfl rfl ⟨(Nat.le_of_ble_eq_true rfl), (Nat.le_of_ble_eq_true rfl)⟩) hK hE hA hP hD hS 0 (T := TX8) (N := 48) (ci := 8) rfl rfl [0, 1, 2, 3, 4, 5, 6, 7, 8, 9, 10, 11, 12, 13, 14, 16, 17, 18, 19] rfl (by decide) (mrgE rfl rfl) rfl rfl rfl rfl rfl hl.1 (Nat.le_of_ble_eq_true rfl) dX8_actOperand_111 ⟨Nat.zero_le _, Nat.zero_le _⟩ (fun H locs hP hD hS => ?_)
    refine lv_goto (tgt := 169) hx hb dX8_actOperand_114 (by decide) ?_
    cases hM
    exact rt_v hx hb hr hlk hP hD hS rfl dX8_actOperand_169
  replace hM := if_f c14 hM
  by_cases c16 : a1 = 141
  · replace hM := if_t c16 hM
    refine lv_tableIn (tgt := 117) hx hb dX8_actOperand_1 (by rw [c16]; decide) (by rw [c16]; decide) (by rw [c16]; rfl) (by decide) ?_
    refine lv_aload_n hx hb dX8_actOperand_117 rfl (lv_at hl 0 rfl) ?_
    obtain ⟨r17, hcr17, hM⟩ := ob_use hM
    refine cl_V (As := []) (rest := []) (wM_CXLNTUOE cI ad o_X r17.1 r17.2.1 r17.2.2.1 o_U r17.2.2.2.1 r17.2.2.2.2 o_Q o_V o_I o_C) [] ⟨hx, hb, hml, hown, hts⟩ (c_Model_output l D cI sd ad o_U o_Q o_V o_I o_C o_X o_L o_N o_T o_O o_E r17 hcr17) (cwV2 hts q1440 mvX8_output rfl rfl ⟨(Nat.le_of_ble_eq_true rfl), (Nat.le_of_ble_eq_true rfl)⟩) hK hE hA hP hD hS 0 (T := TX8) (N := 48) (ci := 8) rfl rfl [0, 1, 2, 3, 4, 5, 6, 7, 8, 9, 10, 11, 12, 13, 14, 16, 17, 18, 19] rfl (by decide) (mrgE rfl rfl) rfl rfl rfl rfl rfl hl.1 (Nat.le_of_ble_eq_true rfl) dX8_actOperand_118 ⟨Nat.zero_le _, Nat.zero_le _⟩ (fun H locs hP hD hS => ?_)
    refine lv_goto (tgt := 169) hx hb dX8_actOperand_121 (by decide) ?_
    cases hM
    exact rt_v hx hb hr hlk hP hD hS rfl dX8_actOperand_169
  replace hM := if_f c16 hM
  by_cases c18 : a1 = 142
  · replace hM := if_t c18 hM
    refine lv_tableIn (tgt := 124) hx hb dX8_actOperand_1 (by rw [c18]; decide) (by rw [c18]; decide) (by rw [c18]; rfl) (by decide) ?_
    refine lv_aload_n hx hb dX8_actOperand_124 rfl (lv_at hl 0 rfl) ?_
    obtain ⟨r19, hcr19, hM⟩ := ob_use hM
    refine cl_V (As := []) (rest := []) (wM_CXLNTUOE cI ad o_X o_L o_N o_T o_U o_O o_E o_Q o_V o_I o_C) (.int r19 :: []) ⟨hx, hb, hml, hown, hts⟩ (c_Model_isOperand l D cI sd ad o_C o_X o_N o_T o_U o_O o_E o_Q o_V o_I o_L r19 hcr19) (cwV2 hts q1444 mvX8_isOperand rfl rfl ⟨(Nat.le_of_ble_eq_true rfl), (Nat.le_of_ble_eq_true rfl)⟩) hK hE hA hP hD hS 0 (T := TX8) (N := 48) (ci := 8) rfl rfl [0] rfl (by decide) rfl rfl rfl rfl rfl rfl hl.1 (Nat.le_of_ble_eq_true rfl) dX8_actOperand_125 ⟨Nat.zero_le _, Nat.zero_le _⟩ (fun H locs hP hD hS => ?_)
    refine lv_if_eq (tgt := 169) hx hb dX8_actOperand_128 (by decide) (fun c20 => ?_) (fun c20 => ?_)
    · replace hM := if_t c20 hM
      cases hM
      exact rt_v hx hb hr hlk hP hD hS rfl dX8_actOperand_169
    · replace hM := if_f c20 hM
      refine lv_aload_n hx hb dX8_actOperand_131 rfl (lv_at hl 0 rfl) ?_
      obtain ⟨r21, hcr21, hM⟩ := ob_use hM
      refine cl_V (As := []) (rest := []) (wM_CXLNTUOE cI ad o_X o_L o_N o_T r21 o_O o_E o_Q o_V o_I o_C) [] ⟨hx, hb, hml, hown, hts⟩ (c_Model_pushArgument l D cI sd ad o_C o_X o_L o_N o_T o_O o_E o_Q o_V o_I o_U r21 hcr21) (cwV2 hts q1448 mvX8_pushArgument rfl rfl ⟨(Nat.le_of_ble_eq_true rfl), (Nat.le_of_ble_eq_true rfl)⟩) hK hE hA hP hD hS 0 (T := TX8) (N := 48) (ci := 8) rfl rfl [0, 15] rfl (by decide) rfl rfl rfl rfl rfl rfl hl.1 (Nat.le_of_ble_eq_true rfl) dX8_actOperand_132 ⟨Nat.zero_le _, Nat.zero_le _⟩ (fun H locs hP hD hS => ?_)
      refine lv_goto (tgt := 169) hx hb dX8_actOperand_135 (by decide) ?_
      cases hM
      exact rt_v hx hb hr hlk hP hD hS rfl dX8_actOperand_169
  replace hM := if_f c18 hM
  by_cases c22 : a1 = 143
  · replace hM := if_t c22 hM
    refine lv_tableIn (tgt := 138) hx hb dX8_actOperand_1 (by rw [c22]; decide) (by rw [c22]; decide) (by rw [c22]; rfl) (by decide) ?_
    refine lv_aload_n hx hb dX8_actOperand_138 rfl (lv_at hl 0 rfl) ?_
    obtain ⟨r23, hcr23, hM⟩ := ob_use hM
    refine cl_V (As := []) (rest := []) (wM_CXLNTUOE cI ad o_X r23.1 r23.2.1 r23.2.2.1 o_U r23.2.2.2.1 r23.2.2.2.2 o_Q o_V o_I o_C) [] ⟨hx, hb, hml, hown, hts⟩ (c_Model_resultEnd l D cI sd ad o_U o_Q o_V o_I o_C o_X o_L o_N o_T o_O o_E r23 hcr23) (cwV2 hts q1452 mvX8_resultEnd rfl rfl ⟨(Nat.le_of_ble_eq_true rfl), (Nat.le_of_ble_eq_true rfl)⟩) hK hE hA hP hD hS 0 (T := TX8) (N := 48) (ci := 8) rfl rfl [0, 1, 2, 3, 4, 5, 6, 7, 8, 9, 10, 11, 12, 13, 14, 16, 17, 18, 19] rfl (by decide) (mrgE rfl rfl) rfl rfl rfl rfl rfl hl.1 (Nat.le_of_ble_eq_true rfl) dX8_actOperand_139 ⟨Nat.zero_le _, Nat.zero_le _⟩ (fun H locs hP hD hS => ?_)
    refine lv_goto (tgt := 169) hx hb dX8_actOperand_142 (by decide) ?_
    cases hM
    exact rt_v hx hb hr hlk hP hD hS rfl dX8_actOperand_169
  replace hM := if_f c22 hM
  by_cases c24 : a1 = 144
  · replace hM := if_t c24 hM
    refine lv_tableIn (tgt := 145) hx hb dX8_actOperand_1 (by rw [c24]; decide) (by rw [c24]; decide) (by rw [c24]; rfl) (by decide) ?_
    refine lv_aload_n hx hb dX8_actOperand_145 rfl (lv_at hl 0 rfl) ?_
    refine va_get (D := D) (ci := 8) (v := .int o_L.2.1) (C := RX8) (T := TX8) (N := 48) hx hb hts layX8 hown hK hP 0 rfl rfl 7 (by decide) (hts _ (inA q985)) (fun _ h9 => h9) rfl dX8_actOperand_146 ?_
    refine lv_bipush (v := 59) hx hb dX8_actOperand_149 (by decide) ?_
    refine lv_icmp_ne (tgt := 169) hx hb dX8_actOperand_151 (by decide) (fun c25 => ?_) (fun c25 => ?_)
    · replace hM := if_f c25 hM
      cases hM
      exact rt_v hx hb hr hlk hP hD hS rfl dX8_actOperand_169
    · replace hM := if_t c25 hM
      refine lv_aload_n hx hb dX8_actOperand_154 rfl (lv_at hl 0 rfl) ?_
      obtain ⟨r26, hcr26, hM⟩ := ob_use hM
      refine cl_V (As := []) (rest := []) (wM_CXLNTUOE cI ad o_X o_L o_N o_T r26 o_O o_E o_Q o_V o_I o_C) [] ⟨hx, hb, hml, hown, hts⟩ (c_Model_pushArgument l D cI sd ad o_C o_X o_L o_N o_T o_O o_E o_Q o_V o_I o_U r26 hcr26) (cwV2 hts q1448 mvX8_pushArgument rfl rfl ⟨(Nat.le_of_ble_eq_true rfl), (Nat.le_of_ble_eq_true rfl)⟩) hK hE hA hP hD hS 0 (T := TX8) (N := 48) (ci := 8) rfl rfl [0, 15] rfl (by decide) rfl rfl rfl rfl rfl rfl hl.1 (Nat.le_of_ble_eq_true rfl) dX8_actOperand_155 ⟨Nat.zero_le _, Nat.zero_le _⟩ (fun H locs hP hD hS => ?_)
      refine lv_aload_n hx hb dX8_actOperand_158 rfl (lv_at hl 0 rfl) ?_
      obtain ⟨r27, hcr27, hM⟩ := ob_use hM
      refine cl_V (As := []) (rest := []) (wM_CXLNTUOE cI ad o_X r27.1 r27.2 o_T r26 o_O o_E o_Q o_V o_I o_C) [] ⟨hx, hb, hml, hown, hts⟩ (c_Model_step l D cI sd ad o_T r26 o_O o_E o_Q o_V o_I o_C o_X o_L o_N r27 hcr27) (cwV2 hts q1151 mvX8_step rfl rfl ⟨(Nat.le_of_ble_eq_true rfl), (Nat.le_of_ble_eq_true rfl)⟩) hK hE hA hP hD hS 0 (T := TX8) (N := 48) (ci := 8) rfl rfl [0, 1, 2, 3, 4, 5, 6, 7] rfl (by decide) (mrgE rfl rfl) rfl rfl rfl rfl rfl hl.1 (Nat.le_of_ble_eq_true rfl) dX8_actOperand_159 ⟨Nat.zero_le _, Nat.zero_le _⟩ (fun H locs hP hD hS => ?_)
      refine lv_goto (tgt := 169) hx hb dX8_actOperand_162 (by decide) ?_
      cases hM
      exact rt_v hx hb hr hlk hP hD hS rfl dX8_actOperand_169
  replace hM := if_f c24 hM
  refine lv_tableOut (tgt := 165) hx hb dX8_actOperand_1 (by have := lv_neT c1 (show (134 : Int32).toInt = 134 by decide); have := lv_neT c3 (show (135 : Int32).toInt = 135 by decide); have := lv_neT c5 (show (136 : Int32).toInt = 136 by decide); have := lv_neT c7 (show (137 : Int32).toInt = 137 by decide); have := lv_neT c10 (show (138 : Int32).toInt = 138 by decide); have := lv_neT c12 (show (139 : Int32).toInt = 139 by decide); have := lv_neT c14 (show (140 : Int32).toInt = 140 by decide); have := lv_neT c16 (show (141 : Int32).toInt = 141 by decide); have := lv_neT c18 (show (142 : Int32).toInt = 142 by decide); have := lv_neT c22 (show (143 : Int32).toInt = 143 by decide); have := lv_neT c24 (show (144 : Int32).toInt = 144 by decide); omega) (by decide) ?_
  refine lv_aload_n hx hb dX8_actOperand_165 rfl (lv_at hl 0 rfl) ?_
  obtain ⟨r28, hcr28, hM⟩ := ob_use hM
  refine cl_V (As := []) (rest := []) (wM_CXLNTUOE cI ad o_X o_L o_N r28.1 o_U o_O r28.2 o_Q o_V o_I o_C) [] ⟨hx, hb, hml, hown, hts⟩ (c_Model_argument l D cI sd ad o_C o_X o_L o_N o_U o_O o_Q o_V o_I o_T o_E r28 hcr28) (cwV2 hts q1432 mvX8_argument rfl rfl ⟨(Nat.le_of_ble_eq_true rfl), (Nat.le_of_ble_eq_true rfl)⟩) hK hE hA hP hD hS 0 (T := TX8) (N := 48) (ci := 8) rfl rfl [0, 8, 9, 10, 11, 12, 13, 14, 16, 17, 18, 19] rfl (by decide) (mrgE rfl rfl) rfl rfl rfl rfl rfl hl.1 (Nat.le_of_ble_eq_true rfl) dX8_actOperand_166 ⟨Nat.zero_le _, Nat.zero_le _⟩ (fun H locs hP hD hS => ?_)
  cases hM
  exact rt_v hx hb hr hlk hP hD hS rfl dX8_actOperand_169

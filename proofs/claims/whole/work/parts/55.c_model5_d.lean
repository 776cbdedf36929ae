set_option maxHeartbeats 4000000 in
set_option maxRecDepth 100000 in
theorem c_Model_actRung (l : Launch) (D : va_G) (cI : ClassId) (sd : Nat → Nat) (ad : Nat → Nat) (o_E : S_ME) (o_Q : S_MQ) (o_V : S_MV) (o_I : S_MI) (o_C : S_MC) (o_X : S_MX) (o_L : S_ML) (o_N : S_MN) (o_T : S_MT) (o_U : S_MU) (o_O : S_MO) (a1 : Int32) (res : S_ML × S_MN × S_MT × S_MU × S_MO) (hM : f_Model_actRung o_C o_X o_L o_N o_T o_U o_O a1 = some res) : Ctr l D cI sd yX8_actRung (wsM yX8_actRung cX8_actRung 2 (Option.none : Option Jvm.ClassFile.FieldType)) { frames := 7, cells := 0, slots := 0, locals := 153 } [.ref (ad 100), .int a1] (wM_CXLNTUO cI ad o_X o_L o_N o_T o_U o_O o_E o_Q o_V o_I o_C) (wM_CXLNTUO cI ad o_X res.1 res.2.1 res.2.2.1 res.2.2.2.1 res.2.2.2.2 o_E o_Q o_V o_I o_C) none := by
  refine Ctr.of (cc := cX8_actRung) (maxL := 2) (own := RX8) (by decide +kernel) rfl rfl (Nat.le_of_ble_eq_true rfl) ?_
  intro p e s m below meth c A ls hx hb hr hml hown hts hlk hK hE hA hP hD hS hl
  have hl : lv_has ls 2 [(0, .ref (ad 100)), (1, .int a1)] := hl
  unfold f_Model_actRung at hM
  refine lv_iload_n hx hb dX8_actRung_0 rfl (lv_at hl 1 rfl) ?_
  by_cases c1 : a1 = 150
  · replace hM := if_t c1 hM
    refine lv_tableIn (tgt := 48) hx hb dX8_actRung_1 (by rw [c1]; decide) (by rw [c1]; decide) (by rw [c1]; rfl) (by decide) ?_
    refine lv_aload_n hx hb dX8_actRung_48 rfl (lv_at hl 0 rfl) ?_
    refine va_get (D := D) (ci := 8) (v := .int o_L.2.1) (C := RX8) (T := TX8) (N := 48) hx hb hts layX8 hown hK hP 0 rfl rfl 7 (by decide) (hts _ (inA q985)) (fun _ h9 => h9) rfl dX8_actRung_49 ?_
    refine lv_bipush (v := 39) hx hb dX8_actRung_52 (by decide) ?_
    refine lv_icmp_ne (tgt := 183) hx hb dX8_actRung_54 (by decide) (fun c2 => ?_) (fun c2 => ?_)
    · replace hM := if_f c2 hM
      cases hM
      exact rt_v hx hb hr hlk hP hD hS rfl dX8_actRung_183
    · replace hM := if_t c2 hM
      refine lv_aload_n hx hb dX8_actRung_57 rfl (lv_at hl 0 rfl) ?_
      refine lv_bipush (v := 23) hx hb dX8_actRung_58 (by decide) ?_
      refine lv_aload_n hx hb dX8_actRung_60 rfl (lv_at hl 0 rfl) ?_
      refine va_get (D := D) (ci := 8) (v := .int o_L.1) (C := RX8) (T := TX8) (N := 48) hx hb hts layX8 hown hK hP 0 rfl rfl 6 (by decide) (hts _ (inA q984)) (fun _ h9 => h9) rfl dX8_actRung_61 ?_
      refine lv_iconst (v := 0) hx hb dX8_actRung_64 (by decide) ?_
      obtain ⟨r3, hcr3, hM⟩ := ob_use hM
      refine cl_V (As := [.int 23, .int o_L.1, .int 0]) (rest := []) (wM_CXLNTUO cI ad o_X o_L o_N r3 o_U o_O o_E o_Q o_V o_I o_C) [] ⟨hx, hb, hml, hown, hts⟩ (c_Model_down l D cI sd ad o_C o_X o_L o_N o_U o_O o_E o_Q o_V o_I o_T 23 o_L.1 0 r3 hcr3) (cwV2 hts q1245 mvX8_down rfl rfl ⟨(Nat.le_of_ble_eq_true rfl), (Nat.le_of_ble_eq_true rfl)⟩) hK hE hA hP hD hS 0 (T := TX8) (N := 48) (ci := 8) rfl rfl [0, 8, 9, 10, 11, 12, 13, 14] rfl (by decide) (mrgE rfl rfl) rfl rfl rfl rfl rfl hl.1 (Nat.le_of_ble_eq_true rfl) dX8_actRung_65 ⟨Nat.zero_le _, Nat.zero_le _⟩ (fun H locs hP hD hS => ?_)
      refine lv_aload_n hx hb dX8_actRung_68 rfl (lv_at hl 0 rfl) ?_
      refine lv_sipush (v := 150) hx hb dX8_actRung_69 (by decide) ?_
      refine lv_bipush (v := 101) hx hb dX8_actRung_72 (by decide) ?_
      refine lv_bipush (v := 40) hx hb dX8_actRung_74 (by decide) ?_
      refine lv_sipush (v := 152) hx hb dX8_actRung_76 (by decide) ?_
      obtain ⟨r4, hcr4, hM⟩ := ob_use hM
      refine cl_V (As := [.int 150, .int 101, .int 40, .int 152]) (rest := []) (wM_CXLNTUO cI ad o_X o_L o_N r3 r4 o_O o_E o_Q o_V o_I o_C) [] ⟨hx, hb, hml, hown, hts⟩ (c_Model_push4 l D cI sd ad o_C o_X o_L o_N r3 o_O o_E o_Q o_V o_I o_U 150 101 40 152 r4 hcr4) (cwV2 hts q1253 mvX8_push4 rfl rfl ⟨(Nat.le_of_ble_eq_true rfl), (Nat.le_of_ble_eq_true rfl)⟩) hK hE hA hP hD hS 0 (T := TX8) (N := 48) (ci := 8) rfl rfl [0, 15] rfl (by decide) rfl rfl rfl rfl rfl rfl hl.1 (Nat.le_of_ble_eq_true rfl) dX8_actRung_79 ⟨Nat.zero_le _, Nat.zero_le _⟩ (fun H locs hP hD hS => ?_)
      refine lv_aload_n hx hb dX8_actRung_82 rfl (lv_at hl 0 rfl) ?_
      refine lv_sipush (v := 151) hx hb dX8_actRung_83 (by decide) ?_
      obtain ⟨r5, hcr5, hM⟩ := ob_use hM
      refine cl_V (As := [.int 151]) (rest := []) (wM_CXLNTUO cI ad o_X o_L o_N r3 r5 o_O o_E o_Q o_V o_I o_C) [] ⟨hx, hb, hml, hown, hts⟩ (c_Model_push l D cI sd ad o_C o_X o_L o_N r3 o_O o_E o_Q o_V o_I r4 151 r5 hcr5) (cwV2 hts q1147 mvX8_push rfl rfl ⟨(Nat.le_of_ble_eq_true rfl), (Nat.le_of_ble_eq_true rfl)⟩) hK hE hA hP hD hS 0 (T := TX8) (N := 48) (ci := 8) rfl rfl [0, 15] rfl (by decide) rfl rfl rfl rfl rfl rfl hl.1 (Nat.le_of_ble_eq_true rfl) dX8_actRung_86 ⟨Nat.zero_le _, Nat.zero_le _⟩ (fun H locs hP hD hS => ?_)
      refine lv_aload_n hx hb dX8_actRung_89 rfl (lv_at hl 0 rfl) ?_
      obtain ⟨r6, hcr6, hM⟩ := ob_use hM
      refine cl_V (As := []) (rest := []) (wM_CXLNTUO cI ad o_X r6.1 r6.2 r3 r5 o_O o_E o_Q o_V o_I o_C) [] ⟨hx, hb, hml, hown, hts⟩ (c_Model_step l D cI sd ad r3 r5 o_O o_E o_Q o_V o_I o_C o_X o_L o_N r6 hcr6) (cwV2 hts q1151 mvX8_step rfl rfl ⟨(Nat.le_of_ble_eq_true rfl), (Nat.le_of_ble_eq_true rfl)⟩) hK hE hA hP hD hS 0 (T := TX8) (N := 48) (ci := 8) rfl rfl [0, 1, 2, 3, 4, 5, 6, 7] rfl (by decide) (mrgE rfl rfl) rfl rfl rfl rfl rfl hl.1 (Nat.le_of_ble_eq_true rfl) dX8_actRung_90 ⟨Nat.zero_le _, Nat.zero_le _⟩ (fun H locs hP hD hS => ?_)
      refine lv_goto (tgt := 183) hx hb dX8_actRung_93 (by decide) ?_
      cases hM
      exact rt_v hx hb hr hlk hP hD hS rfl dX8_actRung_183
  replace hM := if_f c1 hM
  by_cases c7 : a1 = 151
  · replace hM := if_t c7 hM
    refine lv_tableIn (tgt := 96) hx hb dX8_actRung_1 (by rw [c7]; decide) (by rw [c7]; decide) (by rw [c7]; rfl) (by decide) ?_
    refine lv_aload_n hx hb dX8_actRung_96 rfl (lv_at hl 0 rfl) ?_
    refine lv_bipush (v := 24) hx hb dX8_actRung_97 (by decide) ?_
    refine lv_aload_n hx hb dX8_actRung_99 rfl (lv_at hl 0 rfl) ?_
    refine va_get (D := D) (ci := 8) (v := .int o_L.1) (C := RX8) (T := TX8) (N := 48) hx hb hts layX8 hown hK hP 0 rfl rfl 6 (by decide) (hts _ (inA q984)) (fun _ h9 => h9) rfl dX8_actRung_100 ?_
    refine lv_iconst (v := 0) hx hb dX8_actRung_103 (by decide) ?_
    obtain ⟨r8, hcr8, hM⟩ := ob_use hM
    refine cl_V (As := [.int 24, .int o_L.1, .int 0]) (rest := []) (wM_CXLNTUO cI ad o_X o_L o_N r8 o_U o_O o_E o_Q o_V o_I o_C) [] ⟨hx, hb, hml, hown, hts⟩ (c_Model_down l D cI sd ad o_C o_X o_L o_N o_U o_O o_E o_Q o_V o_I o_T 24 o_L.1 0 r8 hcr8) (cwV2 hts q1245 mvX8_down rfl rfl ⟨(Nat.le_of_ble_eq_true rfl), (Nat.le_of_ble_eq_true rfl)⟩) hK hE hA hP hD hS 0 (T := TX8) (N := 48) (ci := 8) rfl rfl [0, 8, 9, 10, 11, 12, 13, 14] rfl (by decide) (mrgE rfl rfl) rfl rfl rfl rfl rfl hl.1 (Nat.le_of_ble_eq_true rfl) dX8_actRung_104 ⟨Nat.zero_le _, Nat.zero_le _⟩ (fun H locs hP hD hS => ?_)
    refine lv_aload_n hx hb dX8_actRung_107 rfl (lv_at hl 0 rfl) ?_
    refine lv_bipush (v := 101) hx hb dX8_actRung_108 (by decide) ?_
    refine lv_bipush (v := 60) hx hb dX8_actRung_110 (by decide) ?_
    refine lv_sipush (v := 154) hx hb dX8_actRung_112 (by decide) ?_
    refine lv_sipush (v := 153) hx hb dX8_actRung_115 (by decide) ?_
    obtain ⟨r9, hcr9, hM⟩ := ob_use hM
    refine cl_V (As := [.int 101, .int 60, .int 154, .int 153]) (rest := []) (wM_CXLNTUO cI ad o_X o_L o_N r8 r9 o_O o_E o_Q o_V o_I o_C) [] ⟨hx, hb, hml, hown, hts⟩ (c_Model_push4 l D cI sd ad o_C o_X o_L o_N r8 o_O o_E o_Q o_V o_I o_U 101 60 154 153 r9 hcr9) (cwV2 hts q1253 mvX8_push4 rfl rfl ⟨(Nat.le_of_ble_eq_true rfl), (Nat.le_of_ble_eq_true rfl)⟩) hK hE hA hP hD hS 0 (T := TX8) (N := 48) (ci := 8) rfl rfl [0, 15] rfl (by decide) rfl rfl rfl rfl rfl rfl hl.1 (Nat.le_of_ble_eq_true rfl) dX8_actRung_118 ⟨Nat.zero_le _, Nat.zero_le _⟩ (fun H locs hP hD hS => ?_)
    refine lv_goto (tgt := 183) hx hb dX8_actRung_121 (by decide) ?_
    cases hM
    exact rt_v hx hb hr hlk hP hD hS rfl dX8_actRung_183
  replace hM := if_f c7 hM
  by_cases c10 : a1 = 152
  · replace hM := if_t c10 hM
    refine lv_tableIn (tgt := 124) hx hb dX8_actRung_1 (by rw [c10]; decide) (by rw [c10]; decide) (by rw [c10]; rfl) (by decide) ?_
    refine lv_aload_n hx hb dX8_actRung_124 rfl (lv_at hl 0 rfl) ?_
    obtain ⟨r11, hcr11, hM⟩ := ob_use hM
    refine cl_V (As := []) (rest := []) (wM_CXLNTUO cI ad o_X o_L o_N o_T o_U o_O o_E o_Q o_V o_I o_C) (.int r11 :: []) ⟨hx, hb, hml, hown, hts⟩ (c_Model_isCell l D cI sd ad o_C o_X o_N o_T o_U o_O o_E o_Q o_V o_I o_L r11 hcr11) (cwV2 hts q1460 mvX8_isCell rfl rfl ⟨(Nat.le_of_ble_eq_true rfl), (Nat.le_of_ble_eq_true rfl)⟩) hK hE hA hP hD hS 0 (T := TX8) (N := 48) (ci := 8) rfl rfl [0] rfl (by decide) rfl rfl rfl rfl rfl rfl hl.1 (Nat.le_of_ble_eq_true rfl) dX8_actRung_125 ⟨Nat.zero_le _, Nat.zero_le _⟩ (fun H locs hP hD hS => ?_)
    refine lv_if_eq (tgt := 183) hx hb dX8_actRung_128 (by decide) (fun c12 => ?_) (fun c12 => ?_)
    · replace hM := if_t c12 hM
      cases hM
      exact rt_v hx hb hr hlk hP hD hS rfl dX8_actRung_183
    · replace hM := if_f c12 hM
      refine lv_aload_n hx hb dX8_actRung_131 rfl (lv_at hl 0 rfl) ?_
      refine lv_sipush (v := 152) hx hb dX8_actRung_132 (by decide) ?_
      refine lv_sipush (v := 151) hx hb dX8_actRung_135 (by decide) ?_
      obtain ⟨r13, hcr13, hM⟩ := ob_use hM
      refine cl_V (As := [.int 152, .int 151]) (rest := []) (wM_CXLNTUO cI ad o_X o_L o_N o_T r13 o_O o_E o_Q o_V o_I o_C) [] ⟨hx, hb, hml, hown, hts⟩ (c_Model_push2 l D cI sd ad o_C o_X o_L o_N o_T o_O o_E o_Q o_V o_I o_U 152 151 r13 hcr13) (cwV2 hts q1257 mvX8_push2 rfl rfl ⟨(Nat.le_of_ble_eq_true rfl), (Nat.le_of_ble_eq_true rfl)⟩) hK hE hA hP hD hS 0 (T := TX8) (N := 48) (ci := 8) rfl rfl [0, 15] rfl (by decide) rfl rfl rfl rfl rfl rfl hl.1 (Nat.le_of_ble_eq_true rfl) dX8_actRung_138 ⟨Nat.zero_le _, Nat.zero_le _⟩ (fun H locs hP hD hS => ?_)
      refine lv_goto (tgt := 183) hx hb dX8_actRung_141 (by decide) ?_
      cases hM
      exact rt_v hx hb hr hlk hP hD hS rfl dX8_actRung_183
  replace hM := if_f c10 hM
  by_cases c14 : a1 = 153
  · replace hM := if_t c14 hM
    refine lv_tableIn (tgt := 144) hx hb dX8_actRung_1 (by rw [c14]; decide) (by rw [c14]; decide) (by rw [c14]; rfl) (by decide) ?_
    refine lv_aload_n hx hb dX8_actRung_144 rfl (lv_at hl 0 rfl) ?_
    obtain ⟨r15, hcr15, hM⟩ := ob_use hM
    refine cl_V (As := []) (rest := []) (wM_CXLNTUO cI ad o_X r15.1 r15.2.1 r15.2.2.1 r15.2.2.2 o_O o_E o_Q o_V o_I o_C) [] ⟨hx, hb, hml, hown, hts⟩ (c_Model_cell l D cI sd ad o_O o_E o_Q o_V o_I o_C o_X o_L o_N o_T o_U r15 hcr15) (cwV2 hts q1464 mvX8_cell rfl rfl ⟨(Nat.le_of_ble_eq_true rfl), (Nat.le_of_ble_eq_true rfl)⟩) hK hE hA hP hD hS 0 (T := TX8) (N := 48) (ci := 8) rfl rfl [0, 1, 2, 3, 4, 5, 6, 7, 8, 9, 10, 11, 12, 13, 14, 15] (rng_hi (n := 16) rfl rfl) (by decide) (rng_rep (n := 16) rfl rfl rfl) rfl rfl rfl rfl rfl hl.1 (Nat.le_of_ble_eq_true rfl) dX8_actRung_145 ⟨Nat.zero_le _, Nat.zero_le _⟩ (fun H locs hP hD hS => ?_)
    refine lv_goto (tgt := 183) hx hb dX8_actRung_148 (by decide) ?_
    cases hM
    exact rt_v hx hb hr hlk hP hD hS rfl dX8_actRung_183
  replace hM := if_f c14 hM
  by_cases c16 : a1 = 154
  · replace hM := if_t c16 hM
    refine lv_tableIn (tgt := 151) hx hb dX8_actRung_1 (by rw [c16]; decide) (by rw [c16]; decide) (by rw [c16]; rfl) (by decide) ?_
    refine lv_aload_n hx hb dX8_actRung_151 rfl (lv_at hl 0 rfl) ?_
    obtain ⟨r17, hcr17, hM⟩ := ob_use hM
    refine cl_V (As := []) (rest := []) (wM_CXLNTUO cI ad o_X r17.1 r17.2.1 r17.2.2.1 r17.2.2.2 o_O o_E o_Q o_V o_I o_C) [] ⟨hx, hb, hml, hown, hts⟩ (c_Model_moreCells l D cI sd ad o_O o_E o_Q o_V o_I o_C o_X o_L o_N o_T o_U r17 hcr17) (cwV2 hts q1468 mvX8_moreCells rfl rfl ⟨(Nat.le_of_ble_eq_true rfl), (Nat.le_of_ble_eq_true rfl)⟩) hK hE hA hP hD hS 0 (T := TX8) (N := 48) (ci := 8) rfl rfl [0, 1, 2, 3, 4, 5, 6, 7, 8, 9, 10, 11, 12, 13, 14, 15] (rng_hi (n := 16) rfl rfl) (by decide) (rng_rep (n := 16) rfl rfl rfl) rfl rfl rfl rfl rfl hl.1 (Nat.le_of_ble_eq_true rfl) dX8_actRung_152 ⟨Nat.zero_le _, Nat.zero_le _⟩ (fun H locs hP hD hS => ?_)
    refine lv_goto (tgt := 183) hx hb dX8_actRung_155 (by decide) ?_
    cases hM
    exact rt_v hx hb hr hlk hP hD hS rfl dX8_actRung_183
  replace hM := if_f c16 hM
  by_cases c18 : a1 = 155
  · replace hM := if_t c18 hM
    refine lv_tableIn (tgt := 158) hx hb dX8_actRung_1 (by rw [c18]; decide) (by rw [c18]; decide) (by rw [c18]; rfl) (by decide) ?_
    refine lv_aload_n hx hb dX8_actRung_158 rfl (lv_at hl 0 rfl) ?_
    obtain ⟨r19, hcr19, hM⟩ := ob_use hM
    refine cl_V (As := []) (rest := []) (wM_CXLNTUO cI ad o_X r19.1 r19.2.1 o_T r19.2.2.1 r19.2.2.2 o_E o_Q o_V o_I o_C) [] ⟨hx, hb, hml, hown, hts⟩ (c_Model_contact l D cI sd ad o_T o_E o_Q o_V o_I o_C o_X o_L o_N o_U o_O r19 hcr19) (cwV2 hts q1472 mvX8_contact rfl rfl ⟨(Nat.le_of_ble_eq_true rfl), (Nat.le_of_ble_eq_true rfl)⟩) hK hE hA hP hD hS 0 (T := TX8) (N := 48) (ci := 8) rfl rfl [0, 1, 2, 3, 4, 5, 6, 7, 15] rfl (by decide) (mrgE rfl rfl) rfl rfl rfl rfl rfl hl.1 (Nat.le_of_ble_eq_true rfl) dX8_actRung_159 ⟨Nat.zero_le _, Nat.zero_le _⟩ (fun H locs hP hD hS => ?_)
    refine lv_goto (tgt := 183) hx hb dX8_actRung_162 (by decide) ?_
    cases hM
    exact rt_v hx hb hr hlk hP hD hS rfl dX8_actRung_183
  replace hM := if_f c18 hM
  by_cases c20 : a1 = 156
  · replace hM := if_t c20 hM
    refine lv_tableIn (tgt := 165) hx hb dX8_actRung_1 (by rw [c20]; decide) (by rw [c20]; decide) (by rw [c20]; rfl) (by decide) ?_
    refine lv_aload_n hx hb dX8_actRung_165 rfl (lv_at hl 0 rfl) ?_
    obtain ⟨r21, hcr21, hM⟩ := ob_use hM
    refine cl_V (As := []) (rest := []) (wM_CXLNTUO cI ad o_X r21.1 r21.2.1 r21.2.2.1 r21.2.2.2 o_O o_E o_Q o_V o_I o_C) [] ⟨hx, hb, hml, hown, hts⟩ (c_Model_behindContact l D cI sd ad o_E o_Q o_V o_I o_C o_X o_L o_N o_T o_U o_O r21 hcr21) (cwV2 hts q1476 mvX8_behindContact rfl rfl ⟨(Nat.le_of_ble_eq_true rfl), (Nat.le_of_ble_eq_true rfl)⟩) hK hE hA hP hD hS 0 (T := TX8) (N := 48) (ci := 8) rfl rfl [0, 1, 2, 3, 4, 5, 6, 7, 8, 9, 10, 11, 12, 13, 14, 15] (rng_hi (n := 16) rfl rfl) (by decide) (rng_rep (n := 16) rfl rfl rfl) rfl rfl rfl rfl rfl hl.1 (Nat.le_of_ble_eq_true rfl) dX8_actRung_166 ⟨Nat.zero_le _, Nat.zero_le _⟩ (fun H locs hP hD hS => ?_)
    refine lv_goto (tgt := 183) hx hb dX8_actRung_169 (by decide) ?_
    cases hM
    exact rt_v hx hb hr hlk hP hD hS rfl dX8_actRung_183
  replace hM := if_f c20 hM
  by_cases c22 : a1 = 157
  · replace hM := if_t c22 hM
    refine lv_tableIn (tgt := 172) hx hb dX8_actRung_1 (by rw [c22]; decide) (by rw [c22]; decide) (by rw [c22]; rfl) (by decide) ?_
    refine lv_aload_n hx hb dX8_actRung_172 rfl (lv_at hl 0 rfl) ?_
    obtain ⟨r23, hcr23, hM⟩ := ob_use hM
    refine cl_V (As := []) (rest := []) (wM_CXLNTUO cI ad o_X r23.1 r23.2.1 r23.2.2 o_U o_O o_E o_Q o_V o_I o_C) [] ⟨hx, hb, hml, hown, hts⟩ (c_Model_coil l D cI sd ad o_U o_O o_E o_Q o_V o_I o_C o_X o_L o_N o_T r23 hcr23) (cwV2 hts q1480 mvX8_coil rfl rfl ⟨(Nat.le_of_ble_eq_true rfl), (Nat.le_of_ble_eq_true rfl)⟩) hK hE hA hP hD hS 0 (T := TX8) (N := 48) (ci := 8) rfl rfl [0, 1, 2, 3, 4, 5, 6, 7, 8, 9, 10, 11, 12, 13, 14] rfl (by decide) (mrgE rfl rfl) rfl rfl rfl rfl rfl hl.1 (Nat.le_of_ble_eq_true rfl) dX8_actRung_173 ⟨Nat.zero_le _, Nat.zero_le _⟩ (fun H locs hP hD hS => ?_)
    refine lv_goto (tgt := 183) hx hb dX8_actRung_176 (by decide) ?_
    cases hM
    exact rt_v hx hb hr hlk hP hD hS rfl dX8_actRung_183
  replace hM := if_f c22 hM
  refine lv_tableOut (tgt := 179) hx hb dX8_actRung_1 (by have := lv_neT c1 (show (150 : Int32).toInt = 150 by decide); have := lv_neT c7 (show (151 : Int32).toInt = 151 by decide); have := lv_neT c10 (show (152 : Int32).toInt = 152 by decide); have := lv_neT c14 (show (153 : Int32).toInt = 153 by decide); have := lv_neT c16 (show (154 : Int32).toInt = 154 by decide); have := lv_neT c18 (show (155 : Int32).toInt = 155 by decide); have := lv_neT c20 (show (156 : Int32).toInt = 156 by decide); have := lv_neT c22 (show (157 : Int32).toInt = 157 by decide); omega) (by decide) ?_
  refine lv_aload_n hx hb dX8_actRung_179 rfl (lv_at hl 0 rfl) ?_
  obtain ⟨r24, hcr24, hM⟩ := ob_use hM
  refine cl_V (As := []) (rest := []) (wM_CXLNTUO cI ad o_X r24.1 r24.2.1 r24.2.2 o_U o_O o_E o_Q o_V o_I o_C) [] ⟨hx, hb, hml, hown, hts⟩ (c_Model_aName l D cI sd ad o_U o_O o_E o_Q o_V o_I o_C o_X o_L o_N o_T r24 hcr24) (cwV2 hts q1289 mvX8_aName rfl rfl ⟨(Nat.le_of_ble_eq_true rfl), (Nat.le_of_ble_eq_true rfl)⟩) hK hE hA hP hD hS 0 (T := TX8) (N := 48) (ci := 8) rfl rfl [0, 1, 2, 3, 4, 5, 6, 7, 8, 9, 10, 11, 12, 13, 14] rfl (by decide) (mrgE rfl rfl) rfl rfl rfl rfl rfl hl.1 (Nat.le_of_ble_eq_true rfl) dX8_actRung_180 ⟨Nat.zero_le _, Nat.zero_le _⟩ (fun H locs hP hD hS => ?_)
  cases hM
  exact rt_v hx hb hr hlk hP hD hS rfl dX8_actRung_183

set_option maxHeartbeats 4000000 in
set_option maxRecDepth 100000 in
theorem c_Model_act (l : Launch) (D : va_G) (cI : ClassId) (sd : Nat → Nat) (ad : Nat → Nat) (o_Q : S_MQ) (o_V : S_MV) (o_I : S_MI) (o_C : S_MC) (o_X : S_MX) (o_L : S_ML) (o_N : S_MN) (o_T : S_MT) (o_U : S_MU) (o_O : S_MO) (o_E : S_ME) (a1 : Int32) (res : S_ML × S_MN × S_MT × S_MU × S_MO × S_ME) (hM : f_Model_act o_C o_X o_L o_N o_T o_U o_O o_E a1 = some res) : Ctr l D cI sd yX8_act (wsM yX8_act cX8_act 2 (Option.none : Option Jvm.ClassFile.FieldType)) { frames := 10, cells := 0, slots := 0, locals := 216 } [.ref (ad 100), .int a1] (wM_CXLNTUOE cI ad o_X o_L o_N o_T o_U o_O o_E o_Q o_V o_I o_C) (wM_CXLNTUOE cI ad o_X res.1 res.2.1 res.2.2.1 res.2.2.2.1 res.2.2.2.2.1 res.2.2.2.2.2 o_Q o_V o_I o_C) none := by
  refine Ctr.of (cc := cX8_act) (maxL := 2) (own := RX8) (by decide +kernel) rfl rfl (Nat.le_of_ble_eq_true rfl) ?_
  intro p e s m below meth c A ls hx hb hr hml hown hts hlk hK hE hA hP hD hS hl
  have hl : lv_has ls 2 [(0, .ref (ad 100)), (1, .int a1)] := hl
  unfold f_Model_act at hM
  refine lv_iload_n hx hb dX8_act_0 rfl (lv_at hl 1 rfl) ?_
  refine lv_bipush (v := 100) hx hb dX8_act_1 (by decide) ?_
  refine lv_icmp_ge (tgt := 14) hx hb dX8_act_3 (by decide) (fun c1 => ?_) (fun c1 => ?_)
  · replace hM := if_t c1 hM
    refine lv_iload_n hx hb dX8_act_14 rfl (lv_at hl 1 rfl) ?_
    refine lv_bipush (v := 115) hx hb dX8_act_15 (by decide) ?_
    refine lv_icmp_ge (tgt := 28) hx hb dX8_act_17 (by decide) (fun c2 => ?_) (fun c2 => ?_)
    · replace hM := if_t c2 hM
      refine lv_iload_n hx hb dX8_act_28 rfl (lv_at hl 1 rfl) ?_
      refine lv_sipush (v := 134) hx hb dX8_act_29 (by decide) ?_
      refine lv_icmp_ge (tgt := 43) hx hb dX8_act_32 (by decide) (fun c3 => ?_) (fun c3 => ?_)
      · replace hM := if_t c3 hM
        refine lv_iload_n hx hb dX8_act_43 rfl (lv_at hl 1 rfl) ?_
        refine lv_sipush (v := 150) hx hb dX8_act_44 (by decide) ?_
        refine lv_icmp_ge (tgt := 58) hx hb dX8_act_47 (by decide) (fun c4 => ?_) (fun c4 => ?_)
        · replace hM := if_t c4 hM
          refine lv_aload_n hx hb dX8_act_58 rfl (lv_at hl 0 rfl) ?_
          refine lv_iload_n hx hb dX8_act_59 rfl (lv_at hl 1 rfl) ?_
          obtain ⟨r5, hcr5, hM⟩ := ob_use hM
          refine cl_V (As := [.int a1]) (rest := []) (wM_CXLNTUOE cI ad o_X r5.1 r5.2.1 r5.2.2.1 r5.2.2.2.1 r5.2.2.2.2 o_E o_Q o_V o_I o_C) [] ⟨hx, hb, hml, hown, hts⟩ (c_Model_actRung l D cI sd ad o_E o_Q o_V o_I o_C o_X o_L o_N o_T o_U o_O a1 r5 hcr5) (cwV2 hts q1456 mvX8_actRung rfl rfl ⟨(Nat.le_of_ble_eq_true rfl), (Nat.le_of_ble_eq_true rfl)⟩) hK hE hA hP hD hS 0 (T := TX8) (N := 48) (ci := 8) rfl rfl [0, 1, 2, 3, 4, 5, 6, 7, 8, 9, 10, 11, 12, 13, 14, 15] rfl (by decide) (mrgE rfl rfl) rfl rfl rfl rfl rfl hl.1 (Nat.le_of_ble_eq_true rfl) dX8_act_60 ⟨Nat.zero_le _, Nat.zero_le _⟩ (fun H locs hP hD hS => ?_)
          cases hM
          exact rt_v hx hb hr hlk hP hD hS rfl dX8_act_63
        · replace hM := if_f c4 hM
          refine lv_aload_n hx hb dX8_act_50 rfl (lv_at hl 0 rfl) ?_
          refine lv_iload_n hx hb dX8_act_51 rfl (lv_at hl 1 rfl) ?_
          obtain ⟨r6, hcr6, hM⟩ := ob_use hM
          refine cl_V (As := [.int a1]) (rest := []) (wM_CXLNTUOE cI ad o_X r6.1 r6.2.1 r6.2.2.1 r6.2.2.2.1 r6.2.2.2.2.1 r6.2.2.2.2.2 o_Q o_V o_I o_C) [] ⟨hx, hb, hml, hown, hts⟩ (c_Model_actOperand l D cI sd ad o_Q o_V o_I o_C o_X o_L o_N o_T o_U o_O o_E a1 r6 hcr6) (cwV2 hts q1373 mvX8_actOperand rfl rfl ⟨(Nat.le_of_ble_eq_true rfl), (Nat.le_of_ble_eq_true rfl)⟩) hK hE hA hP hD hS 0 (T := TX8) (N := 48) (ci := 8) rfl rfl [0, 1, 2, 3, 4, 5, 6, 7, 8, 9, 10, 11, 12, 13, 14, 15, 16, 17, 18, 19] (rng_hi (n := 20) rfl rfl) (by decide) (rng_rep (n := 20) rfl rfl rfl) rfl rfl rfl rfl rfl hl.1 (Nat.le_of_ble_eq_true rfl) dX8_act_52 ⟨Nat.zero_le _, Nat.zero_le _⟩ (fun H locs hP hD hS => ?_)
          refine lv_goto (tgt := 63) hx hb dX8_act_55 (by decide) ?_
          cases hM
          exact rt_v hx hb hr hlk hP hD hS rfl dX8_act_63
      · replace hM := if_f c3 hM
        refine lv_aload_n hx hb dX8_act_35 rfl (lv_at hl 0 rfl) ?_
        refine lv_iload_n hx hb dX8_act_36 rfl (lv_at hl 1 rfl) ?_
        obtain ⟨r7, hcr7, hM⟩ := ob_use hM
        refine cl_V (As := [.int a1]) (rest := []) (wM_CXLNTUOE cI ad o_X r7.1 r7.2.1 r7.2.2.1 r7.2.2.2.1 r7.2.2.2.2 o_E o_Q o_V o_I o_C) [] ⟨hx, hb, hml, hown, hts⟩ (c_Model_actStatement l D cI sd ad o_E o_Q o_V o_I o_C o_X o_L o_N o_T o_U o_O a1 r7 hcr7) (cwV2 hts q1309 mvX8_actStatement rfl rfl ⟨(Nat.le_of_ble_eq_true rfl), (Nat.le_of_ble_eq_true rfl)⟩) hK hE hA hP hD hS 0 (T := TX8) (N := 48) (ci := 8) rfl rfl [0, 1, 2, 3, 4, 5, 6, 7, 8, 9, 10, 11, 12, 13, 14, 15] rfl (by decide) (mrgE rfl rfl) rfl rfl rfl rfl rfl hl.1 (Nat.le_of_ble_eq_true rfl) dX8_act_37 ⟨Nat.zero_le _, Nat.zero_le _⟩ (fun H locs hP hD hS => ?_)
        refine lv_goto (tgt := 63) hx hb dX8_act_40 (by decide) ?_
        cases hM
        exact rt_v hx hb hr hlk hP hD hS rfl dX8_act_63
    · replace hM := if_f c2 hM
      refine lv_aload_n hx hb dX8_act_20 rfl (lv_at hl 0 rfl) ?_
      refine lv_iload_n hx hb dX8_act_21 rfl (lv_at hl 1 rfl) ?_
      obtain ⟨r8, hcr8, hM⟩ := ob_use hM
      refine cl_V (As := [.int a1]) (rest := []) (wM_CXLNTUOE cI ad o_X r8.1 r8.2.1 r8.2.2.1 r8.2.2.2.1 r8.2.2.2.2 o_E o_Q o_V o_I o_C) [] ⟨hx, hb, hml, hown, hts⟩ (c_Model_actBlock l D cI sd ad o_E o_Q o_V o_I o_C o_X o_L o_N o_T o_U o_O a1 r8 hcr8) (cwV2 hts q1237 mvX8_actBlock rfl rfl ⟨(Nat.le_of_ble_eq_true rfl), (Nat.le_of_ble_eq_true rfl)⟩) hK hE hA hP hD hS 0 (T := TX8) (N := 48) (ci := 8) rfl rfl [0, 1, 2, 3, 4, 5, 6, 7, 8, 9, 10, 11, 12, 13, 14, 15] rfl (by decide) (mrgE rfl rfl) rfl rfl rfl rfl rfl hl.1 (Nat.le_of_ble_eq_true rfl) dX8_act_22 ⟨Nat.zero_le _, Nat.zero_le _⟩ (fun H locs hP hD hS => ?_)
      refine lv_goto (tgt := 63) hx hb dX8_act_25 (by decide) ?_
      cases hM
      exact rt_v hx hb hr hlk hP hD hS rfl dX8_act_63
  · replace hM := if_f c1 hM
    refine lv_aload_n hx hb dX8_act_6 rfl (lv_at hl 0 rfl) ?_
    refine lv_iload_n hx hb dX8_act_7 rfl (lv_at hl 1 rfl) ?_
    obtain ⟨r9, hcr9, hM⟩ := ob_use hM
    refine cl_V (As := [.int a1]) (rest := []) (wM_CXLNTUOE cI ad o_X r9.1 r9.2 o_T o_U o_O o_E o_Q o_V o_I o_C) [] ⟨hx, hb, hml, hown, hts⟩ (c_Model_pass l D cI sd ad o_T o_U o_O o_E o_Q o_V o_I o_C o_X o_L o_N a1 r9 hcr9) (cwV2 hts q1229 mvX8_pass rfl rfl ⟨(Nat.le_of_ble_eq_true rfl), (Nat.le_of_ble_eq_true rfl)⟩) hK hE hA hP hD hS 0 (T := TX8) (N := 48) (ci := 8) rfl rfl [0, 1, 2, 3, 4, 5, 6, 7] rfl (by decide) (mrgE rfl rfl) rfl rfl rfl rfl rfl hl.1 (Nat.le_of_ble_eq_true rfl) dX8_act_8 ⟨Nat.zero_le _, Nat.zero_le _⟩ (fun H locs hP hD hS => ?_)
    refine lv_goto (tgt := 63) hx hb dX8_act_11 (by decide) ?_
    cases hM
    exact rt_v hx hb hr hlk hP hD hS rfl dX8_act_63

set_option maxHeartbeats 4000000 in
set_option maxRecDepth 100000 in
theorem c_Model_following (l : Launch) (D : va_G) (cI : ClassId) (sd : Nat → Nat) (ad : Nat → Nat) (o_C : S_MC) (o_X : S_MX) (o_L : S_ML) (o_N : S_MN) (o_U : S_MU) (o_O : S_MO) (o_E : S_ME) (o_Q : S_MQ) (o_V : S_MV) (o_I : S_MI) (o_T : S_MT) (a1 : Int32) (res : Int32) (hM : f_Model_following o_T a1 = some res) : Ctr l D cI sd yX8_following (wsM yX8_following cX8_following 3 (Option.some Jvm.ClassFile.FieldType.int)) { frames := 0, cells := 0, slots := 0, locals := 0 } [.ref (ad 100), .int a1] (wM_T cI ad o_X o_L o_N o_T o_U o_O o_E o_Q o_V o_I) (wM_T cI ad o_X o_L o_N o_T o_U o_O o_E o_Q o_V o_I) (some (.int res)) := by
  refine Ctr.of (cc := cX8_following) (maxL := 3) (own := RX8) (by decide +kernel) rfl rfl (Nat.le_of_ble_eq_true rfl) ?_
  intro p e s m below meth c A ls hx hb hr hml hown hts hlk hK hE hA hP hD hS hl
  have hl : lv_has ls 3 [(0, .ref (ad 100)), (1, .int a1)] := hl
  unfold f_Model_following at hM
  refine lv_iload_n hx hb dX8_following_0 rfl (lv_at hl 1 rfl) ?_
  refine lv_istore_n (lv' := [(2, .int a1), (0, .ref (ad 100)), (1, .int a1)]) hx hb dX8_following_1 rfl hl (by decide) rfl (fun ls hl => ?_)
  refine lv_aload_n hx hb dX8_following_2 rfl (lv_at hl 1 rfl) ?_
  refine va_get (D := D) (ci := 8) (v := .ref (ad 112)) (C := RX8) (T := TX8) (N := 48) hx hb hts layX8 hown hK hP 0 rfl rfl 21 (by decide) (hts _ (inA q999)) (fun _ h9 => h9) rfl dX8_following_3 ?_
  refine lv_iload_n hx hb dX8_following_6 rfl (lv_at hl 0 rfl) ?_
  obtain ⟨b1, hM⟩ := gd_use hM
  refine va_iald hx hb hK hP 5 0 rfl rfl b1 dX8_following_7 ?_
  refine lv_iconst (v := (-1)) hx hb dX8_following_8 (by decide) ?_
  refine lv_icmp_eq (tgt := 19) hx hb dX8_following_9 (by decide) (fun c2 => ?_) (fun c2 => ?_)
  · replace hM := if_t c2 hM
    have lp_L19 : ∀ (o_T_L19 : S_MT) (n : Nat) (v2_L19 : Int32) (out_L19 : Int32) (H : Heap) (locs : List Loc) (ls : Array Slot), f_Model_following_L19 o_T_L19 n v2_L19 = some out_L19 → va_P D vwCl (wM_T cI ad o_X o_L o_N o_T_L19 o_U o_O o_E o_Q o_V o_I) H → va_D A (wM_T cI ad o_X o_L o_N o_T_L19 o_U o_O o_E o_Q o_V o_I) → va_S A s.heap H locs → lv_has ls 3 [(2, .int v2_L19), (0, .ref (ad 100))] → (∀ (H : Heap) (locs : List Loc) (ls : Array Slot), va_P D vwCl (wM_T cI ad o_X o_L o_N o_T_L19 o_U o_O o_E o_Q o_V o_I) H → va_D A (wM_T cI ad o_X o_L o_N o_T_L19 o_U o_O o_E o_Q o_V o_I) → va_S A s.heap H locs → lv_has ls 3 [(2, .int out_L19), (0, .ref (ad 100))] → W p l e { frames := 0, cells := 0, slots := 0, locals := 0 } s m [.ref (ad 100), .int a1].toArray below meth c H locs 0 0 (MQ below (CQ D A (wM_T cI ad o_X o_L o_N o_T o_U o_O o_E o_Q o_V o_I) (some (.int res))) [.ref (ad 100), .int a1].toArray s 0 0 A) (F0 m 44 ls [])) → W p l e { frames := 0, cells := 0, slots := 0, locals := 0 } s m [.ref (ad 100), .int a1].toArray below meth c H locs 0 0 (MQ below (CQ D A (wM_T cI ad o_X o_L o_N o_T o_U o_O o_E o_Q o_V o_I) (some (.int res))) [.ref (ad 100), .int a1].toArray s 0 0 A) (F0 m 19 ls []) := by
      intro o_T_L19 n
      induction n with
      | zero => intro v2_L19 out_L19 H locs ls hM; exact absurd (show none = some _ from hM) (by simp)
      | succ n ih_L19 =>
        intro v2_L19 out_L19 H locs ls hM hP hD hS hl kx_L19
        rw [f_Model_following_L19] at hM
        refine lv_iload_n hx hb dX8_following_19 rfl (lv_at hl 0 rfl) ?_
        refine lv_iconst (v := (-1)) hx hb dX8_following_20 (by decide) ?_
        refine lv_icmp_eq (tgt := 44) hx hb dX8_following_21 (by decide) (fun c1291 => ?_) (fun c1291 => ?_)
        · replace hM := if_t c1291 hM
          cases hM
          exact kx_L19 _ _ _ hP hD hS (lv_sub hl [0, 1] rfl)
        · replace hM := if_f c1291 hM
          refine lv_aload_n hx hb dX8_following_24 rfl (lv_at hl 1 rfl) ?_
          refine va_get (D := D) (ci := 8) (v := .ref (ad 114)) (C := RX8) (T := TX8) (N := 48) hx hb hts layX8 hown hK hP 0 rfl rfl 23 (by decide) (hts _ (inA q1001)) (fun _ h9 => h9) rfl dX8_following_25 ?_
          refine lv_iload_n hx hb dX8_following_28 rfl (lv_at hl 0 rfl) ?_
          obtain ⟨b1292, hM⟩ := gd_use hM
          refine va_iald hx hb hK hP 7 0 rfl rfl b1292 dX8_following_29 ?_
          refine lv_iconst (v := (-1)) hx hb dX8_following_30 (by decide) ?_
          refine lv_icmp_ne (tgt := 44) hx hb dX8_following_31 (by decide) (fun c1293 => ?_) (fun c1293 => ?_)
          · replace hM := if_f c1293 hM
            cases hM
            exact kx_L19 _ _ _ hP hD hS (lv_sub hl [0, 1] rfl)
          · replace hM := if_t c1293 hM
            refine lv_aload_n hx hb dX8_following_34 rfl (lv_at hl 1 rfl) ?_
            refine va_get (D := D) (ci := 8) (v := .ref (ad 111)) (C := RX8) (T := TX8) (N := 48) hx hb hts layX8 hown hK hP 0 rfl rfl 20 (by decide) (hts _ (inA q998)) (fun _ h9 => h9) rfl dX8_following_35 ?_
            refine lv_iload_n hx hb dX8_following_38 rfl (lv_at hl 0 rfl) ?_
            obtain ⟨b1294, hM⟩ := gd_use hM
            refine va_iald hx hb hK hP 4 0 rfl rfl b1294 dX8_following_39 ?_
            refine lv_topi (fun x1295 ex1295 => ?_)
            replace hM := nm_use ex1295 hM
            refine lv_istore_n (lv' := [(2, .int x1295), (0, .ref (ad 100))]) hx hb dX8_following_40 rfl hl (by decide) rfl (fun ls hl => ?_)
            refine lv_goto (tgt := 19) hx hb dX8_following_41 (by decide) ?_
            exact ih_L19 x1295 out_L19 _ _ _ hM hP hD hS (lv_sub hl [0, 1] rfl) kx_L19
    obtain ⟨r3, hcr3, hM⟩ := ob_use hM
    refine lp_L19 o_T FU a1 r3 _ _ _ hcr3 hP hD hS (lv_sub hl [0, 1] rfl) (fun H locs ls hP hD hS hl => ?_)
    refine lv_iload_n hx hb dX8_following_44 rfl (lv_at hl 0 rfl) ?_
    refine lv_iconst (v := (-1)) hx hb dX8_following_45 (by decide) ?_
    refine lv_icmp_ne (tgt := 53) hx hb dX8_following_46 (by decide) (fun c4 => ?_) (fun c4 => ?_)
    · replace hM := if_f c4 hM
      refine lv_aload_n hx hb dX8_following_53 rfl (lv_at hl 1 rfl) ?_
      refine va_get (D := D) (ci := 8) (v := .ref (ad 114)) (C := RX8) (T := TX8) (N := 48) hx hb hts layX8 hown hK hP 0 rfl rfl 23 (by decide) (hts _ (inA q1001)) (fun _ h9 => h9) rfl dX8_following_54 ?_
      refine lv_iload_n hx hb dX8_following_57 rfl (lv_at hl 0 rfl) ?_
      obtain ⟨b5, hM⟩ := gd_use hM
      refine va_iald hx hb hK hP 7 0 rfl rfl b5 dX8_following_58 ?_
      cases hM
      exact rt_i hx hb hr hlk hP hD hS rfl dX8_following_59
    · replace hM := if_t c4 hM
      refine lv_iconst (v := (-1)) hx hb dX8_following_49 (by decide) ?_
      refine lv_goto (tgt := 59) hx hb dX8_following_50 (by decide) ?_
      cases hM
      exact rt_i hx hb hr hlk hP hD hS rfl dX8_following_59
  · replace hM := if_f c2 hM
    refine lv_aload_n hx hb dX8_following_12 rfl (lv_at hl 1 rfl) ?_
    refine va_get (D := D) (ci := 8) (v := .ref (ad 112)) (C := RX8) (T := TX8) (N := 48) hx hb hts layX8 hown hK hP 0 rfl rfl 21 (by decide) (hts _ (inA q999)) (fun _ h9 => h9) rfl dX8_following_13 ?_
    refine lv_iload_n hx hb dX8_following_16 rfl (lv_at hl 0 rfl) ?_
    obtain ⟨b6, hM⟩ := gd_use hM
    refine va_iald hx hb hK hP 5 0 rfl rfl b6 dX8_following_17 ?_
    cases hM
    exact rt_i hx hb hr hlk hP hD hS rfl dX8_following_18

set_option maxHeartbeats 4000000 in
set_option maxRecDepth 100000 in
theorem c_Model_number (l : Launch) (D : va_G) (cI : ClassId) (sd : Nat → Nat) (ad : Nat → Nat) (o_C : S_MC) (o_X : S_MX) (o_L : S_ML) (o_N : S_MN) (o_U : S_MU) (o_O : S_MO) (o_E : S_ME) (o_V : S_MV) (o_I : S_MI) (o_T : S_MT) (o_Q : S_MQ) (res : S_MQ) (hM : f_Model_number o_T o_Q = some res) : Ctr l D cI sd yX8_number (wsM yX8_number cX8_number 2 (Option.none : Option Jvm.ClassFile.FieldType)) { frames := 1, cells := 0, slots := 0, locals := 22 } [.ref (ad 100)] (wM_TQ cI ad o_X o_L o_N o_T o_U o_O o_E o_Q o_V o_I) (wM_TQ cI ad o_X o_L o_N o_T o_U o_O o_E res o_V o_I) none := by
  refine Ctr.of (cc := cX8_number) (maxL := 2) (own := RX8) (by decide +kernel) rfl rfl (Nat.le_of_ble_eq_true rfl) ?_
  intro p e s m below meth c A ls hx hb hr hml hown hts hlk hK hE hA hP hD hS hl
  have hl : lv_has ls 2 [(0, .ref (ad 100))] := hl
  unfold f_Model_number at hM
  refine lv_aload_n hx hb dX8_number_0 rfl (lv_at hl 0 rfl) ?_
  refine lv_iconst (v := 0) hx hb dX8_number_1 (by decide) ?_
  refine va_put (D := D) (ci := 8) (v := .int 0) (ty := .int) (C := RX8) (T := TX8) (N := 48) hx hb hts layX8 tyX8 tyX8_ok nmX8 hown hK hP hD hS 0 rfl rfl 40 (by decide) (hts _ (inA q1018)) (fun _ h9 => h9) rfl (by decide +kernel) rfl rfl (Nat.le_of_ble_eq_true rfl) dX8_number_2 (fun H locs hP hD hS => ?_)
  have hP : va_P D vwCl (wM_TQ cI ad o_X o_L o_N o_T o_U o_O o_E (0, o_Q.2) o_V o_I) H := hP
  have hD : va_D A (wM_TQ cI ad o_X o_L o_N o_T o_U o_O o_E (0, o_Q.2) o_V o_I) := hD
  refine lv_iconst (v := 0) hx hb dX8_number_5 (by decide) ?_
  refine lv_istore_n (lv' := [(1, .int 0), (0, .ref (ad 100))]) hx hb dX8_number_6 rfl hl (by decide) rfl (fun ls hl => ?_)
  have lp_L7 : ∀ (o_T_L7 : S_MT) (n : Nat) (v1_L7 : Int32) (o_Q_L7 : S_MQ) (out_L7 : S_MQ) (H : Heap) (locs : List Loc) (ls : Array Slot), f_Model_number_L7 o_T_L7 n v1_L7 o_Q_L7 = some out_L7 → va_P D vwCl (wM_TQ cI ad o_X o_L o_N o_T_L7 o_U o_O o_E o_Q_L7 o_V o_I) H → va_D A (wM_TQ cI ad o_X o_L o_N o_T_L7 o_U o_O o_E o_Q_L7 o_V o_I) → va_S A s.heap H locs → lv_has ls 2 [(1, .int v1_L7), (0, .ref (ad 100))] → (∀ (H : Heap) (locs : List Loc) (ls : Array Slot), va_P D vwCl (wM_TQ cI ad o_X o_L o_N o_T_L7 o_U o_O o_E out_L7 o_V o_I) H → va_D A (wM_TQ cI ad o_X o_L o_N o_T_L7 o_U o_O o_E out_L7 o_V o_I) → va_S A s.heap H locs → lv_has ls 2 [(0, .ref (ad 100))] → W p l e { frames := 1, cells := 0, slots := 0, locals := 22 } s m [.ref (ad 100)].toArray below meth c H locs 0 0 (MQ below (CQ D A (wM_TQ cI ad o_X o_L o_N o_T o_U o_O o_E res o_V o_I) none) [.ref (ad 100)].toArray s 0 0 A) (F0 m 51 ls [])) → W p l e { frames := 1, cells := 0, slots := 0, locals := 22 } s m [.ref (ad 100)].toArray below meth c H locs 0 0 (MQ below (CQ D A (wM_TQ cI ad o_X o_L o_N o_T o_U o_O o_E res o_V o_I) none) [.ref (ad 100)].toArray s 0 0 A) (F0 m 7 ls []) := by
    intro o_T_L7 n
    induction n with
    | zero => intro v1_L7 o_Q_L7 out_L7 H locs ls hM; exact absurd (show none = some _ from hM) (by simp)
    | succ n ih_L7 =>
      intro v1_L7 o_Q_L7 out_L7 H locs ls hM hP hD hS hl kx_L7
      rw [f_Model_number_L7] at hM
      refine lv_iload_n hx hb dX8_number_7 rfl (lv_at hl 0 rfl) ?_
      refine lv_iconst (v := (-1)) hx hb dX8_number_8 (by decide) ?_
      refine lv_icmp_eq (tgt := 51) hx hb dX8_number_9 (by decide) (fun c1171 => ?_) (fun c1171 => ?_)
      · replace hM := if_t c1171 hM
        cases hM
        exact kx_L7 _ _ _ hP hD hS (lv_sub hl [1] rfl)
      · replace hM := if_f c1171 hM
        refine lv_aload_n hx hb dX8_number_12 rfl (lv_at hl 1 rfl) ?_
        refine va_get (D := D) (ci := 8) (v := .ref (ad 120)) (C := RX8) (T := TX8) (N := 48) hx hb hts layX8 hown hK hP 0 rfl rfl 41 (by decide) (hts _ (inA q1019)) (fun _ h9 => h9) rfl dX8_number_13 ?_
        refine lv_aload_n hx hb dX8_number_16 rfl (lv_at hl 1 rfl) ?_
        refine va_get (D := D) (ci := 8) (v := .int o_Q_L7.1) (C := RX8) (T := TX8) (N := 48) hx hb hts layX8 hown hK hP 0 rfl rfl 40 (by decide) (hts _ (inA q1018)) (fun _ h9 => h9) rfl dX8_number_17 ?_
        refine lv_iload_n hx hb dX8_number_20 rfl (lv_at hl 0 rfl) ?_
        obtain ⟨b1172, hM⟩ := gd_use hM
        refine va_iast hx hb hK hP hD hS 8 0 rfl rfl b1172 dX8_number_21 (fun H locs hP hD hS => ?_)
        have hP : va_P D vwCl (wM_TQ cI ad o_X o_L o_N o_T_L7 o_U o_O o_E (o_Q_L7.1, upd o_Q_L7.2.1 o_Q_L7.1.toNatClampNeg v1_L7, o_Q_L7.2.2) o_V o_I) H := hP
        have hD : va_D A (wM_TQ cI ad o_X o_L o_N o_T_L7 o_U o_O o_E (o_Q_L7.1, upd o_Q_L7.2.1 o_Q_L7.1.toNatClampNeg v1_L7, o_Q_L7.2.2) o_V o_I) := hD
        refine lv_aload_n hx hb dX8_number_22 rfl (lv_at hl 1 rfl) ?_
        refine va_get (D := D) (ci := 8) (v := .ref (ad 121)) (C := RX8) (T := TX8) (N := 48) hx hb hts layX8 hown hK hP 0 rfl rfl 42 (by decide) (hts _ (inA q1020)) (fun _ h9 => h9) rfl dX8_number_23 ?_
        refine lv_iload_n hx hb dX8_number_26 rfl (lv_at hl 0 rfl) ?_
        refine lv_aload_n hx hb dX8_number_27 rfl (lv_at hl 1 rfl) ?_
        refine va_get (D := D) (ci := 8) (v := .int o_Q_L7.1) (C := RX8) (T := TX8) (N := 48) hx hb hts layX8 hown hK hP 0 rfl rfl 40 (by decide) (hts _ (inA q1018)) (fun _ h9 => h9) rfl dX8_number_28 ?_
        obtain ⟨b1173, hM⟩ := gd_use hM
        refine va_iast hx hb hK hP hD hS 9 0 rfl rfl b1173 dX8_number_31 (fun H locs hP hD hS => ?_)
        have hP : va_P D vwCl (wM_TQ cI ad o_X o_L o_N o_T_L7 o_U o_O o_E (o_Q_L7.1, upd o_Q_L7.2.1 o_Q_L7.1.toNatClampNeg v1_L7, upd o_Q_L7.2.2 v1_L7.toNatClampNeg o_Q_L7.1) o_V o_I) H := hP
        have hD : va_D A (wM_TQ cI ad o_X o_L o_N o_T_L7 o_U o_O o_E (o_Q_L7.1, upd o_Q_L7.2.1 o_Q_L7.1.toNatClampNeg v1_L7, upd o_Q_L7.2.2 v1_L7.toNatClampNeg o_Q_L7.1) o_V o_I) := hD
        refine lv_aload_n hx hb dX8_number_32 rfl (lv_at hl 1 rfl) ?_
        refine lv_dup hx hb dX8_number_33 rfl ?_
        refine va_get (D := D) (ci := 8) (v := .int o_Q_L7.1) (C := RX8) (T := TX8) (N := 48) hx hb hts layX8 hown hK hP 0 rfl rfl 40 (by decide) (hts _ (inA q1018)) (fun _ h9 => h9) rfl dX8_number_34 ?_
        refine lv_iconst (v := 1) hx hb dX8_number_37 (by decide) ?_
        refine lv_iadd hx hb dX8_number_38 ?_
        refine va_put (D := D) (ci := 8) (v := .int (o_Q_L7.1 + 1)) (ty := .int) (C := RX8) (T := TX8) (N := 48) hx hb hts layX8 tyX8 tyX8_ok nmX8 hown hK hP hD hS 0 rfl rfl 40 (by decide) (hts _ (inA q1018)) (fun _ h9 => h9) rfl (by decide +kernel) rfl rfl (Nat.le_of_ble_eq_true rfl) dX8_number_39 (fun H locs hP hD hS => ?_)
        have hP : va_P D vwCl (wM_TQ cI ad o_X o_L o_N o_T_L7 o_U o_O o_E (o_Q_L7.1 + 1, upd o_Q_L7.2.1 o_Q_L7.1.toNatClampNeg v1_L7, upd o_Q_L7.2.2 v1_L7.toNatClampNeg o_Q_L7.1) o_V o_I) H := hP
        have hD : va_D A (wM_TQ cI ad o_X o_L o_N o_T_L7 o_U o_O o_E (o_Q_L7.1 + 1, upd o_Q_L7.2.1 o_Q_L7.1.toNatClampNeg v1_L7, upd o_Q_L7.2.2 v1_L7.toNatClampNeg o_Q_L7.1) o_V o_I) := hD
        refine lv_aload_n hx hb dX8_number_42 rfl (lv_at hl 1 rfl) ?_
        refine lv_iload_n hx hb dX8_number_43 rfl (lv_at hl 0 rfl) ?_
        obtain ⟨r1174, hcr1174, hM⟩ := ob_use hM
        refine cl_V (As := [.int v1_L7]) (rest := []) (wM_TQ cI ad o_X o_L o_N o_T_L7 o_U o_O o_E (o_Q_L7.1 + 1, upd o_Q_L7.2.1 o_Q_L7.1.toNatClampNeg v1_L7, upd o_Q_L7.2.2 v1_L7.toNatClampNeg o_Q_L7.1) o_V o_I) (.int r1174 :: []) ⟨hx, hb, hml, hown, hts⟩ (c_Model_following l D cI sd ad o_C o_X o_L o_N o_U o_O o_E (o_Q_L7.1 + 1, upd o_Q_L7.2.1 o_Q_L7.1.toNatClampNeg v1_L7, upd o_Q_L7.2.2 v1_L7.toNatClampNeg o_Q_L7.1) o_V o_I o_T_L7 v1_L7 r1174 hcr1174) (cwV2 hts q1488 mvX8_following rfl rfl ⟨(Nat.le_of_ble_eq_true rfl), (Nat.le_of_ble_eq_true rfl)⟩) hK hE hA hP hD hS 0 (T := TX8) (N := 48) (ci := 8) rfl rfl [0, 1, 2, 3, 4, 5, 6, 7] rfl (by decide) (mrgE rfl rfl) rfl rfl rfl rfl rfl hl.1 (Nat.le_of_ble_eq_true rfl) dX8_number_44 ⟨Nat.zero_le _, Nat.zero_le _⟩ (fun H locs hP hD hS => ?_)
        refine lv_istore_n (lv' := [(1, .int r1174), (0, .ref (ad 100))]) hx hb dX8_number_47 rfl hl (by decide) rfl (fun ls hl => ?_)
        refine lv_goto (tgt := 7) hx hb dX8_number_48 (by decide) ?_
        exact ih_L7 r1174 (o_Q_L7.1 + 1, upd o_Q_L7.2.1 o_Q_L7.1.toNatClampNeg v1_L7, upd o_Q_L7.2.2 v1_L7.toNatClampNeg o_Q_L7.1) out_L7 _ _ _ hM hP hD hS (lv_sub hl [0, 1] rfl) kx_L7
  obtain ⟨r1, hcr1, hM⟩ := ob_use hM
  refine lp_L7 o_T FU 0 (0, o_Q.2) r1 _ _ _ hcr1 hP hD hS (lv_sub hl [0, 1] rfl) (fun H locs ls hP hD hS hl => ?_)
  cases hM
  exact rt_v hx hb hr hlk hP hD hS rfl dX8_number_51

set_option maxHeartbeats 4000000 in
set_option maxRecDepth 100000 in
theorem c_Model_compound (l : Launch) (D : va_G) (cI : ClassId) (sd : Nat → Nat) (ad : Nat → Nat) (o_O : S_MO) (o_E : S_ME) (o_Q : S_MQ) (o_V : S_MV) (o_I : S_MI) (o_C : S_MC) (o_X : S_MX) (o_L : S_ML) (o_N : S_MN) (o_T : S_MT) (o_U : S_MU) (res : S_ML × S_MN × S_MT × S_MU) (hM : f_Model_compound o_C o_X o_L o_N o_T o_U = some res) : Ctr l D cI sd yX8_compound (wsM yX8_compound cX8_compound 1 (Option.none : Option Jvm.ClassFile.FieldType)) { frames := 5, cells := 0, slots := 0, locals := 112 } [.ref (ad 100)] (wM_CXLNTU cI ad o_X o_L o_N o_T o_U o_O o_E o_Q o_V o_I o_C) (wM_CXLNTU cI ad o_X res.1 res.2.1 res.2.2.1 res.2.2.2 o_O o_E o_Q o_V o_I o_C) none := by
  refine Ctr.of (cc := cX8_compound) (maxL := 1) (own := RX8) (by decide +kernel) rfl rfl (Nat.le_of_ble_eq_true rfl) ?_
  intro p e s m below meth c A ls hx hb hr hml hown hts hlk hK hE hA hP hD hS hl
  have hl : lv_has ls 1 [(0, .ref (ad 100))] := hl
  unfold f_Model_compound at hM
  refine lv_aload_n hx hb dX8_compound_0 rfl (lv_at hl 0 rfl) ?_
  refine lv_bipush (v := 115) hx hb dX8_compound_1 (by decide) ?_
  refine lv_bipush (v := 118) hx hb dX8_compound_3 (by decide) ?_
  refine lv_bipush (v := 60) hx hb dX8_compound_5 (by decide) ?_
  refine lv_aload_n hx hb dX8_compound_7 rfl (lv_at hl 0 rfl) ?_
  refine va_get (D := D) (ci := 8) (v := .int o_L.2.1) (C := RX8) (T := TX8) (N := 48) hx hb hts layX8 hown hK hP 0 rfl rfl 7 (by decide) (hts _ (inA q985)) (fun _ h9 => h9) rfl dX8_compound_8 ?_
  refine lv_bipush (v := 16) hx hb dX8_compound_11 (by decide) ?_
  refine lv_icmp_ne (tgt := 21) hx hb dX8_compound_13 (by decide) (fun c1 => ?_) (fun c1 => ?_)
  · replace hM := if_f c1 hM
    refine lv_aload_n hx hb dX8_compound_21 rfl (lv_at hl 0 rfl) ?_
    refine va_get (D := D) (ci := 8) (v := .int o_L.2.1) (C := RX8) (T := TX8) (N := 48) hx hb hts layX8 hown hK hP 0 rfl rfl 7 (by decide) (hts _ (inA q985)) (fun _ h9 => h9) rfl dX8_compound_22 ?_
    refine lv_bipush (v := 21) hx hb dX8_compound_25 (by decide) ?_
    refine lv_icmp_ne (tgt := 35) hx hb dX8_compound_27 (by decide) (fun c2 => ?_) (fun c2 => ?_)
    · replace hM := if_f c2 hM
      refine lv_bipush (v := 27) hx hb dX8_compound_35 (by decide) ?_
      obtain ⟨r3, hcr3, hM⟩ := ob_use hM
      refine cl_V (As := [.int 115, .int 118, .int 60, .int 27]) (rest := []) (wM_CXLNTU cI ad o_X o_L o_N o_T r3 o_O o_E o_Q o_V o_I o_C) [] ⟨hx, hb, hml, hown, hts⟩ (c_Model_push4 l D cI sd ad o_C o_X o_L o_N o_T o_O o_E o_Q o_V o_I o_U 115 118 60 27 r3 hcr3) (cwV2 hts q1253 mvX8_push4 rfl rfl ⟨(Nat.le_of_ble_eq_true rfl), (Nat.le_of_ble_eq_true rfl)⟩) hK hE hA hP hD hS 0 (T := TX8) (N := 48) (ci := 8) rfl rfl [0, 15] rfl (by decide) rfl rfl rfl rfl rfl rfl hl.1 (Nat.le_of_ble_eq_true rfl) dX8_compound_37 ⟨Nat.zero_le _, Nat.zero_le _⟩ (fun H locs hP hD hS => ?_)
      refine lv_aload_n hx hb dX8_compound_40 rfl (lv_at hl 0 rfl) ?_
      refine va_get (D := D) (ci := 8) (v := .int o_L.2.1) (C := RX8) (T := TX8) (N := 48) hx hb hts layX8 hown hK hP 0 rfl rfl 7 (by decide) (hts _ (inA q985)) (fun _ h9 => h9) rfl dX8_compound_41 ?_
      refine lv_bipush (v := 16) hx hb dX8_compound_44 (by decide) ?_
      refine lv_icmp_ne (tgt := 75) hx hb dX8_compound_46 (by decide) (fun c4 => ?_) (fun c4 => ?_)
      · replace hM := if_f c4 hM
        refine lv_aload_n hx hb dX8_compound_75 rfl (lv_at hl 0 rfl) ?_
        refine va_get (D := D) (ci := 8) (v := .int o_L.2.1) (C := RX8) (T := TX8) (N := 48) hx hb hts layX8 hown hK hP 0 rfl rfl 7 (by decide) (hts _ (inA q985)) (fun _ h9 => h9) rfl dX8_compound_76 ?_
        refine lv_bipush (v := 21) hx hb dX8_compound_79 (by decide) ?_
        refine lv_icmp_ne (tgt := 116) hx hb dX8_compound_81 (by decide) (fun c5 => ?_) (fun c5 => ?_)
        · replace hM := if_f c5 hM
          refine lv_aload_n hx hb dX8_compound_116 rfl (lv_at hl 0 rfl) ?_
          refine lv_bipush (v := 19) hx hb dX8_compound_117 (by decide) ?_
          refine lv_aload_n hx hb dX8_compound_119 rfl (lv_at hl 0 rfl) ?_
          refine va_get (D := D) (ci := 8) (v := .int o_L.1) (C := RX8) (T := TX8) (N := 48) hx hb hts layX8 hown hK hP 0 rfl rfl 6 (by decide) (hts _ (inA q984)) (fun _ h9 => h9) rfl dX8_compound_120 ?_
          refine lv_iconst (v := 0) hx hb dX8_compound_123 (by decide) ?_
          obtain ⟨r6, hcr6, hM⟩ := ob_use hM
          refine cl_V (As := [.int 19, .int o_L.1, .int 0]) (rest := []) (wM_CXLNTU cI ad o_X o_L o_N r6 r3 o_O o_E o_Q o_V o_I o_C) [] ⟨hx, hb, hml, hown, hts⟩ (c_Model_down l D cI sd ad o_C o_X o_L o_N r3 o_O o_E o_Q o_V o_I o_T 19 o_L.1 0 r6 hcr6) (cwV2 hts q1245 mvX8_down rfl rfl ⟨(Nat.le_of_ble_eq_true rfl), (Nat.le_of_ble_eq_true rfl)⟩) hK hE hA hP hD hS 0 (T := TX8) (N := 48) (ci := 8) rfl rfl [0, 8, 9, 10, 11, 12, 13, 14] rfl (by decide) (mrgE rfl rfl) rfl rfl rfl rfl rfl hl.1 (Nat.le_of_ble_eq_true rfl) dX8_compound_124 ⟨Nat.zero_le _, Nat.zero_le _⟩ (fun H locs hP hD hS => ?_)
          refine lv_aload_n hx hb dX8_compound_127 rfl (lv_at hl 0 rfl) ?_
          refine lv_bipush (v := 126) hx hb dX8_compound_128 (by decide) ?_
          refine lv_bipush (v := 127) hx hb dX8_compound_130 (by decide) ?_
          refine lv_bipush (v := 113) hx hb dX8_compound_132 (by decide) ?_
          refine lv_bipush (v := 24) hx hb dX8_compound_134 (by decide) ?_
          obtain ⟨r7, hcr7, hM⟩ := ob_use hM
          refine cl_V (As := [.int 126, .int 127, .int 113, .int 24]) (rest := []) (wM_CXLNTU cI ad o_X o_L o_N r6 r7 o_O o_E o_Q o_V o_I o_C) [] ⟨hx, hb, hml, hown, hts⟩ (c_Model_push4 l D cI sd ad o_C o_X o_L o_N r6 o_O o_E o_Q o_V o_I r3 126 127 113 24 r7 hcr7) (cwV2 hts q1253 mvX8_push4 rfl rfl ⟨(Nat.le_of_ble_eq_true rfl), (Nat.le_of_ble_eq_true rfl)⟩) hK hE hA hP hD hS 0 (T := TX8) (N := 48) (ci := 8) rfl rfl [0, 15] rfl (by decide) rfl rfl rfl rfl rfl rfl hl.1 (Nat.le_of_ble_eq_true rfl) dX8_compound_136 ⟨Nat.zero_le _, Nat.zero_le _⟩ (fun H locs hP hD hS => ?_)
          refine lv_aload_n hx hb dX8_compound_139 rfl (lv_at hl 0 rfl) ?_
          refine lv_bipush (v := 113) hx hb dX8_compound_140 (by decide) ?_
          refine lv_bipush (v := 50) hx hb dX8_compound_142 (by decide) ?_
          obtain ⟨r8, hcr8, hM⟩ := ob_use hM
          refine cl_V (As := [.int 113, .int 50]) (rest := []) (wM_CXLNTU cI ad o_X o_L o_N r6 r8 o_O o_E o_Q o_V o_I o_C) [] ⟨hx, hb, hml, hown, hts⟩ (c_Model_push2 l D cI sd ad o_C o_X o_L o_N r6 o_O o_E o_Q o_V o_I r7 113 50 r8 hcr8) (cwV2 hts q1257 mvX8_push2 rfl rfl ⟨(Nat.le_of_ble_eq_true rfl), (Nat.le_of_ble_eq_true rfl)⟩) hK hE hA hP hD hS 0 (T := TX8) (N := 48) (ci := 8) rfl rfl [0, 15] rfl (by decide) rfl rfl rfl rfl rfl rfl hl.1 (Nat.le_of_ble_eq_true rfl) dX8_compound_144 ⟨Nat.zero_le _, Nat.zero_le _⟩ (fun H locs hP hD hS => ?_)
          refine lv_aload_n hx hb dX8_compound_147 rfl (lv_at hl 0 rfl) ?_
          refine lv_bipush (v := 105) hx hb dX8_compound_148 (by decide) ?_
          obtain ⟨r9, hcr9, hM⟩ := ob_use hM
          refine cl_V (As := [.int 105]) (rest := []) (wM_CXLNTU cI ad o_X o_L o_N r6 r9 o_O o_E o_Q o_V o_I o_C) [] ⟨hx, hb, hml, hown, hts⟩ (c_Model_push l D cI sd ad o_C o_X o_L o_N r6 o_O o_E o_Q o_V o_I r8 105 r9 hcr9) (cwV2 hts q1147 mvX8_push rfl rfl ⟨(Nat.le_of_ble_eq_true rfl), (Nat.le_of_ble_eq_true rfl)⟩) hK hE hA hP hD hS 0 (T := TX8) (N := 48) (ci := 8) rfl rfl [0, 15] rfl (by decide) rfl rfl rfl rfl rfl rfl hl.1 (Nat.le_of_ble_eq_true rfl) dX8_compound_150 ⟨Nat.zero_le _, Nat.zero_le _⟩ (fun H locs hP hD hS => ?_)
          refine lv_aload_n hx hb dX8_compound_153 rfl (lv_at hl 0 rfl) ?_
          obtain ⟨r10, hcr10, hM⟩ := ob_use hM
          refine cl_V (As := []) (rest := []) (wM_CXLNTU cI ad o_X r10.1 r10.2 r6 r9 o_O o_E o_Q o_V o_I o_C) [] ⟨hx, hb, hml, hown, hts⟩ (c_Model_step l D cI sd ad r6 r9 o_O o_E o_Q o_V o_I o_C o_X o_L o_N r10 hcr10) (cwV2 hts q1151 mvX8_step rfl rfl ⟨(Nat.le_of_ble_eq_true rfl), (Nat.le_of_ble_eq_true rfl)⟩) hK hE hA hP hD hS 0 (T := TX8) (N := 48) (ci := 8) rfl rfl [0, 1, 2, 3, 4, 5, 6, 7] rfl (by decide) (mrgE rfl rfl) rfl rfl rfl rfl rfl hl.1 (Nat.le_of_ble_eq_true rfl) dX8_compound_154 ⟨Nat.zero_le _, Nat.zero_le _⟩ (fun H locs hP hD hS => ?_)
          cases hM
          exact rt_v hx hb hr hlk hP hD hS rfl dX8_compound_157
        · replace hM := if_t c5 hM
          refine lv_aload_n hx hb dX8_compound_84 rfl (lv_at hl 0 rfl) ?_
          refine lv_bipush (v := 16) hx hb dX8_compound_85 (by decide) ?_
          refine lv_aload_n hx hb dX8_compound_87 rfl (lv_at hl 0 rfl) ?_
          refine va_get (D := D) (ci := 8) (v := .int o_L.1) (C := RX8) (T := TX8) (N := 48) hx hb hts layX8 hown hK hP 0 rfl rfl 6 (by decide) (hts _ (inA q984)) (fun _ h9 => h9) rfl dX8_compound_88 ?_
          refine lv_iconst (v := 0) hx hb dX8_compound_91 (by decide) ?_
          obtain ⟨r11, hcr11, hM⟩ := ob_use hM
          refine cl_V (As := [.int 16, .int o_L.1, .int 0]) (rest := []) (wM_CXLNTU cI ad o_X o_L o_N r11 r3 o_O o_E o_Q o_V o_I o_C) [] ⟨hx, hb, hml, hown, hts⟩ (c_Model_down l D cI sd ad o_C o_X o_L o_N r3 o_O o_E o_Q o_V o_I o_T 16 o_L.1 0 r11 hcr11) (cwV2 hts q1245 mvX8_down rfl rfl ⟨(Nat.le_of_ble_eq_true rfl), (Nat.le_of_ble_eq_true rfl)⟩) hK hE hA hP hD hS 0 (T := TX8) (N := 48) (ci := 8) rfl rfl [0, 8, 9, 10, 11, 12, 13, 14] rfl (by decide) (mrgE rfl rfl) rfl rfl rfl rfl rfl hl.1 (Nat.le_of_ble_eq_true rfl) dX8_compound_92 ⟨Nat.zero_le _, Nat.zero_le _⟩ (fun H locs hP hD hS => ?_)
          refine lv_aload_n hx hb dX8_compound_95 rfl (lv_at hl 0 rfl) ?_
          refine lv_bipush (v := 120) hx hb dX8_compound_96 (by decide) ?_
          refine lv_bipush (v := 121) hx hb dX8_compound_98 (by decide) ?_
          obtain ⟨r12, hcr12, hM⟩ := ob_use hM
          refine cl_V (As := [.int 120, .int 121]) (rest := []) (wM_CXLNTU cI ad o_X o_L o_N r11 r12 o_O o_E o_Q o_V o_I o_C) [] ⟨hx, hb, hml, hown, hts⟩ (c_Model_push2 l D cI sd ad o_C o_X o_L o_N r11 o_O o_E o_Q o_V o_I r3 120 121 r12 hcr12) (cwV2 hts q1257 mvX8_push2 rfl rfl ⟨(Nat.le_of_ble_eq_true rfl), (Nat.le_of_ble_eq_true rfl)⟩) hK hE hA hP hD hS 0 (T := TX8) (N := 48) (ci := 8) rfl rfl [0, 15] rfl (by decide) rfl rfl rfl rfl rfl rfl hl.1 (Nat.le_of_ble_eq_true rfl) dX8_compound_100 ⟨Nat.zero_le _, Nat.zero_le _⟩ (fun H locs hP hD hS => ?_)
          refine lv_aload_n hx hb dX8_compound_103 rfl (lv_at hl 0 rfl) ?_
          refine lv_bipush (v := 15) hx hb dX8_compound_104 (by decide) ?_
          obtain ⟨r13, hcr13, hM⟩ := ob_use hM
          refine cl_V (As := [.int 15]) (rest := []) (wM_CXLNTU cI ad o_X o_L o_N r11 r13 o_O o_E o_Q o_V o_I o_C) [] ⟨hx, hb, hml, hown, hts⟩ (c_Model_push l D cI sd ad o_C o_X o_L o_N r11 o_O o_E o_Q o_V o_I r12 15 r13 hcr13) (cwV2 hts q1147 mvX8_push rfl rfl ⟨(Nat.le_of_ble_eq_true rfl), (Nat.le_of_ble_eq_true rfl)⟩) hK hE hA hP hD hS 0 (T := TX8) (N := 48) (ci := 8) rfl rfl [0, 15] rfl (by decide) rfl rfl rfl rfl rfl rfl hl.1 (Nat.le_of_ble_eq_true rfl) dX8_compound_106 ⟨Nat.zero_le _, Nat.zero_le _⟩ (fun H locs hP hD hS => ?_)
          refine lv_aload_n hx hb dX8_compound_109 rfl (lv_at hl 0 rfl) ?_
          obtain ⟨r14, hcr14, hM⟩ := ob_use hM
          refine cl_V (As := []) (rest := []) (wM_CXLNTU cI ad o_X o_L o_N r11 r14 o_O o_E o_Q o_V o_I o_C) [] ⟨hx, hb, hml, hown, hts⟩ (c_Model_pushExpression l D cI sd ad o_C o_X o_L o_N r11 o_O o_E o_Q o_V o_I r13 r14 hcr14) (cwV2 hts q1329 mvX8_pushExpression rfl rfl ⟨(Nat.le_of_ble_eq_true rfl), (Nat.le_of_ble_eq_true rfl)⟩) hK hE hA hP hD hS 0 (T := TX8) (N := 48) (ci := 8) rfl rfl [0, 15] rfl (by decide) rfl rfl rfl rfl rfl rfl hl.1 (Nat.le_of_ble_eq_true rfl) dX8_compound_110 ⟨Nat.zero_le _, Nat.zero_le _⟩ (fun H locs hP hD hS => ?_)
          refine lv_goto (tgt := 153) hx hb dX8_compound_113 (by decide) ?_
          refine lv_aload_n hx hb dX8_compound_153 rfl (lv_at hl 0 rfl) ?_
          obtain ⟨r15, hcr15, hM⟩ := ob_use hM
          refine cl_V (As := []) (rest := []) (wM_CXLNTU cI ad o_X r15.1 r15.2 r11 r14 o_O o_E o_Q o_V o_I o_C) [] ⟨hx, hb, hml, hown, hts⟩ (c_Model_step l D cI sd ad r11 r14 o_O o_E o_Q o_V o_I o_C o_X o_L o_N r15 hcr15) (cwV2 hts q1151 mvX8_step rfl rfl ⟨(Nat.le_of_ble_eq_true rfl), (Nat.le_of_ble_eq_true rfl)⟩) hK hE hA hP hD hS 0 (T := TX8) (N := 48) (ci := 8) rfl rfl [0, 1, 2, 3, 4, 5, 6, 7] rfl (by decide) (mrgE rfl rfl) rfl rfl rfl rfl rfl hl.1 (Nat.le_of_ble_eq_true rfl) dX8_compound_154 ⟨Nat.zero_le _, Nat.zero_le _⟩ (fun H locs hP hD hS => ?_)
          cases hM
          exact rt_v hx hb hr hlk hP hD hS rfl dX8_compound_157
      · replace hM := if_t c4 hM
        refine lv_aload_n hx hb dX8_compound_49 rfl (lv_at hl 0 rfl) ?_
        refine lv_bipush (v := 15) hx hb dX8_compound_50 (by decide) ?_
        refine lv_aload_n hx hb dX8_compound_52 rfl (lv_at hl 0 rfl) ?_
        refine va_get (D := D) (ci := 8) (v := .int o_L.1) (C := RX8) (T := TX8) (N := 48) hx hb hts layX8 hown hK hP 0 rfl rfl 6 (by decide) (hts _ (inA q984)) (fun _ h9 => h9) rfl dX8_compound_53 ?_
        refine lv_iconst (v := 0) hx hb dX8_compound_56 (by decide) ?_
        obtain ⟨r16, hcr16, hM⟩ := ob_use hM
        refine cl_V (As := [.int 15, .int o_L.1, .int 0]) (rest := []) (wM_CXLNTU cI ad o_X o_L o_N r16 r3 o_O o_E o_Q o_V o_I o_C) [] ⟨hx, hb, hml, hown, hts⟩ (c_Model_down l D cI sd ad o_C o_X o_L o_N r3 o_O o_E o_Q o_V o_I o_T 15 o_L.1 0 r16 hcr16) (cwV2 hts q1245 mvX8_down rfl rfl ⟨(Nat.le_of_ble_eq_true rfl), (Nat.le_of_ble_eq_true rfl)⟩) hK hE hA hP hD hS 0 (T := TX8) (N := 48) (ci := 8) rfl rfl [0, 8, 9, 10, 11, 12, 13, 14] rfl (by decide) (mrgE rfl rfl) rfl rfl rfl rfl rfl hl.1 (Nat.le_of_ble_eq_true rfl) dX8_compound_57 ⟨Nat.zero_le _, Nat.zero_le _⟩ (fun H locs hP hD hS => ?_)
        refine lv_aload_n hx hb dX8_compound_60 rfl (lv_at hl 0 rfl) ?_
        refine lv_bipush (v := 117) hx hb dX8_compound_61 (by decide) ?_
        refine lv_bipush (v := 119) hx hb dX8_compound_63 (by decide) ?_
        obtain ⟨r17, hcr17, hM⟩ := ob_use hM
        refine cl_V (As := [.int 117, .int 119]) (rest := []) (wM_CXLNTU cI ad o_X o_L o_N r16 r17 o_O o_E o_Q o_V o_I o_C) [] ⟨hx, hb, hml, hown, hts⟩ (c_Model_push2 l D cI sd ad o_C o_X o_L o_N r16 o_O o_E o_Q o_V o_I r3 117 119 r17 hcr17) (cwV2 hts q1257 mvX8_push2 rfl rfl ⟨(Nat.le_of_ble_eq_true rfl), (Nat.le_of_ble_eq_true rfl)⟩) hK hE hA hP hD hS 0 (T := TX8) (N := 48) (ci := 8) rfl rfl [0, 15] rfl (by decide) rfl rfl rfl rfl rfl rfl hl.1 (Nat.le_of_ble_eq_true rfl) dX8_compound_65 ⟨Nat.zero_le _, Nat.zero_le _⟩ (fun H locs hP hD hS => ?_)
        refine lv_aload_n hx hb dX8_compound_68 rfl (lv_at hl 0 rfl) ?_
        obtain ⟨r18, hcr18, hM⟩ := ob_use hM
        refine cl_V (As := []) (rest := []) (wM_CXLNTU cI ad o_X o_L o_N r16 r18 o_O o_E o_Q o_V o_I o_C) [] ⟨hx, hb, hml, hown, hts⟩ (c_Model_pushExpression l D cI sd ad o_C o_X o_L o_N r16 o_O o_E o_Q o_V o_I r17 r18 hcr18) (cwV2 hts q1329 mvX8_pushExpression rfl rfl ⟨(Nat.le_of_ble_eq_true rfl), (Nat.le_of_ble_eq_true rfl)⟩) hK hE hA hP hD hS 0 (T := TX8) (N := 48) (ci := 8) rfl rfl [0, 15] rfl (by decide) rfl rfl rfl rfl rfl rfl hl.1 (Nat.le_of_ble_eq_true rfl) dX8_compound_69 ⟨Nat.zero_le _, Nat.zero_le _⟩ (fun H locs hP hD hS => ?_)
        refine lv_goto (tgt := 153) hx hb dX8_compound_72 (by decide) ?_
        refine lv_aload_n hx hb dX8_compound_153 rfl (lv_at hl 0 rfl) ?_
        obtain ⟨r19, hcr19, hM⟩ := ob_use hM
        refine cl_V (As := []) (rest := []) (wM_CXLNTU cI ad o_X r19.1 r19.2 r16 r18 o_O o_E o_Q o_V o_I o_C) [] ⟨hx, hb, hml, hown, hts⟩ (c_Model_step l D cI sd ad r16 r18 o_O o_E o_Q o_V o_I o_C o_X o_L o_N r19 hcr19) (cwV2 hts q1151 mvX8_step rfl rfl ⟨(Nat.le_of_ble_eq_true rfl), (Nat.le_of_ble_eq_true rfl)⟩) hK hE hA hP hD hS 0 (T := TX8) (N := 48) (ci := 8) rfl rfl [0, 1, 2, 3, 4, 5, 6, 7] rfl (by decide) (mrgE rfl rfl) rfl rfl rfl rfl rfl hl.1 (Nat.le_of_ble_eq_true rfl) dX8_compound_154 ⟨Nat.zero_le _, Nat.zero_le _⟩ (fun H locs hP hD hS => ?_)
        cases hM
        exact rt_v hx hb hr hlk hP hD hS rfl dX8_compound_157
    · replace hM := if_t c2 hM
      refine lv_bipush (v := 22) hx hb dX8_compound_30 (by decide) ?_
      refine lv_goto (tgt := 37) hx hb dX8_compound_32 (by decide) ?_
      obtain ⟨r20, hcr20, hM⟩ := ob_use hM
      refine cl_V (As := [.int 115, .int 118, .int 60, .int 22]) (rest := []) (wM_CXLNTU cI ad o_X o_L o_N o_T r20 o_O o_E o_Q o_V o_I o_C) [] ⟨hx, hb, hml, hown, hts⟩ (c_Model_push4 l D cI sd ad o_C o_X o_L o_N o_T o_O o_E o_Q o_V o_I o_U 115 118 60 22 r20 hcr20) (cwV2 hts q1253 mvX8_push4 rfl rfl ⟨(Nat.le_of_ble_eq_true rfl), (Nat.le_of_ble_eq_true rfl)⟩) hK hE hA hP hD hS 0 (T := TX8) (N := 48) (ci := 8) rfl rfl [0, 15] rfl (by decide) rfl rfl rfl rfl rfl rfl hl.1 (Nat.le_of_ble_eq_true rfl) dX8_compound_37 ⟨Nat.zero_le _, Nat.zero_le _⟩ (fun H locs hP hD hS => ?_)
      refine lv_aload_n hx hb dX8_compound_40 rfl (lv_at hl 0 rfl) ?_
      refine va_get (D := D) (ci := 8) (v := .int o_L.2.1) (C := RX8) (T := TX8) (N := 48) hx hb hts layX8 hown hK hP 0 rfl rfl 7 (by decide) (hts _ (inA q985)) (fun _ h9 => h9) rfl dX8_compound_41 ?_
      refine lv_bipush (v := 16) hx hb dX8_compound_44 (by decide) ?_
      refine lv_icmp_ne (tgt := 75) hx hb dX8_compound_46 (by decide) (fun c21 => ?_) (fun c21 => ?_)
      · replace hM := if_f c21 hM
        refine lv_aload_n hx hb dX8_compound_75 rfl (lv_at hl 0 rfl) ?_
        refine va_get (D := D) (ci := 8) (v := .int o_L.2.1) (C := RX8) (T := TX8) (N := 48) hx hb hts layX8 hown hK hP 0 rfl rfl 7 (by decide) (hts _ (inA q985)) (fun _ h9 => h9) rfl dX8_compound_76 ?_
        refine lv_bipush (v := 21) hx hb dX8_compound_79 (by decide) ?_
        refine lv_icmp_ne (tgt := 116) hx hb dX8_compound_81 (by decide) (fun c22 => ?_) (fun c22 => ?_)
        · replace hM := if_f c22 hM
          refine lv_aload_n hx hb dX8_compound_116 rfl (lv_at hl 0 rfl) ?_
          refine lv_bipush (v := 19) hx hb dX8_compound_117 (by decide) ?_
          refine lv_aload_n hx hb dX8_compound_119 rfl (lv_at hl 0 rfl) ?_
          refine va_get (D := D) (ci := 8) (v := .int o_L.1) (C := RX8) (T := TX8) (N := 48) hx hb hts layX8 hown hK hP 0 rfl rfl 6 (by decide) (hts _ (inA q984)) (fun _ h9 => h9) rfl dX8_compound_120 ?_
          refine lv_iconst (v := 0) hx hb dX8_compound_123 (by decide) ?_
          obtain ⟨r23, hcr23, hM⟩ := ob_use hM
          refine cl_V (As := [.int 19, .int o_L.1, .int 0]) (rest := []) (wM_CXLNTU cI ad o_X o_L o_N r23 r20 o_O o_E o_Q o_V o_I o_C) [] ⟨hx, hb, hml, hown, hts⟩ (c_Model_down l D cI sd ad o_C o_X o_L o_N r20 o_O o_E o_Q o_V o_I o_T 19 o_L.1 0 r23 hcr23) (cwV2 hts q1245 mvX8_down rfl rfl ⟨(Nat.le_of_ble_eq_true rfl), (Nat.le_of_ble_eq_true rfl)⟩) hK hE hA hP hD hS 0 (T := TX8) (N := 48) (ci := 8) rfl rfl [0, 8, 9, 10, 11, 12, 13, 14] rfl (by decide) (mrgE rfl rfl) rfl rfl rfl rfl rfl hl.1 (Nat.le_of_ble_eq_true rfl) dX8_compound_124 ⟨Nat.zero_le _, Nat.zero_le _⟩ (fun H locs hP hD hS => ?_)
          refine lv_aload_n hx hb dX8_compound_127 rfl (lv_at hl 0 rfl) ?_
          refine lv_bipush (v := 126) hx hb dX8_compound_128 (by decide) ?_
          refine lv_bipush (v := 127) hx hb dX8_compound_130 (by decide) ?_
          refine lv_bipush (v := 113) hx hb dX8_compound_132 (by decide) ?_
          refine lv_bipush (v := 24) hx hb dX8_compound_134 (by decide) ?_
          obtain ⟨r24, hcr24, hM⟩ := ob_use hM
          refine cl_V (As := [.int 126, .int 127, .int 113, .int 24]) (rest := []) (wM_CXLNTU cI ad o_X o_L o_N r23 r24 o_O o_E o_Q o_V o_I o_C) [] ⟨hx, hb, hml, hown, hts⟩ (c_Model_push4 l D cI sd ad o_C o_X o_L o_N r23 o_O o_E o_Q o_V o_I r20 126 127 113 24 r24 hcr24) (cwV2 hts q1253 mvX8_push4 rfl rfl ⟨(Nat.le_of_ble_eq_true rfl), (Nat.le_of_ble_eq_true rfl)⟩) hK hE hA hP hD hS 0 (T := TX8) (N := 48) (ci := 8) rfl rfl [0, 15] rfl (by decide) rfl rfl rfl rfl rfl rfl hl.1 (Nat.le_of_ble_eq_true rfl) dX8_compound_136 ⟨Nat.zero_le _, Nat.zero_le _⟩ (fun H locs hP hD hS => ?_)
          refine lv_aload_n hx hb dX8_compound_139 rfl (lv_at hl 0 rfl) ?_
          refine lv_bipush (v := 113) hx hb dX8_compound_140 (by decide) ?_
          refine lv_bipush (v := 50) hx hb dX8_compound_142 (by decide) ?_
          obtain ⟨r25, hcr25, hM⟩ := ob_use hM
          refine cl_V (As := [.int 113, .int 50]) (rest := []) (wM_CXLNTU cI ad o_X o_L o_N r23 r25 o_O o_E o_Q o_V o_I o_C) [] ⟨hx, hb, hml, hown, hts⟩ (c_Model_push2 l D cI sd ad o_C o_X o_L o_N r23 o_O o_E o_Q o_V o_I r24 113 50 r25 hcr25) (cwV2 hts q1257 mvX8_push2 rfl rfl ⟨(Nat.le_of_ble_eq_true rfl), (Nat.le_of_ble_eq_true rfl)⟩) hK hE hA hP hD hS 0 (T := TX8) (N := 48) (ci := 8) rfl rfl [0, 15] rfl (by decide) rfl rfl rfl rfl rfl rfl hl.1 (Nat.le_of_ble_eq_true rfl) dX8_compound_144 ⟨Nat.zero_le _, Nat.zero_le _⟩ (fun H locs hP hD hS => ?_)
          refine lv_aload_n hx hb dX8_compound_147 rfl (lv_at hl 0 rfl) ?_
          refine lv_bipush (v := 105) hx hb dX8_compound_148 (by decide) ?_
          obtain ⟨r26, hcr26, hM⟩ := ob_use hM
          refine cl_V (As := [.int 105]) (rest := []) (wM_CXLNTU cI ad o_X o_L o_N r23 r26 o_O o_E o_Q o_V o_I o_C) [] ⟨hx, hb, hml, hown, hts⟩ (c_Model_push l D cI sd ad o_C o_X o_L o_N r23 o_O o_E o_Q o_V o_I r25 105 r26 hcr26) (cwV2 hts q1147 mvX8_push rfl rfl ⟨(Nat.le_of_ble_eq_true rfl), (Nat.le_of_ble_eq_true rfl)⟩) hK hE hA hP hD hS 0 (T := TX8) (N := 48) (ci := 8) rfl rfl [0, 15] rfl (by decide) rfl rfl rfl rfl rfl rfl hl.1 (Nat.le_of_ble_eq_true rfl) dX8_compound_150 ⟨Nat.zero_le _, Nat.zero_le _⟩ (fun H locs hP hD hS => ?_)
          refine lv_aload_n hx hb dX8_compound_153 rfl (lv_at hl 0 rfl) ?_
          obtain ⟨r27, hcr27, hM⟩ := ob_use hM
          refine cl_V (As := []) (rest := []) (wM_CXLNTU cI ad o_X r27.1 r27.2 r23 r26 o_O o_E o_Q o_V o_I o_C) [] ⟨hx, hb, hml, hown, hts⟩ (c_Model_step l D cI sd ad r23 r26 o_O o_E o_Q o_V o_I o_C o_X o_L o_N r27 hcr27) (cwV2 hts q1151 mvX8_step rfl rfl ⟨(Nat.le_of_ble_eq_true rfl), (Nat.le_of_ble_eq_true rfl)⟩) hK hE hA hP hD hS 0 (T := TX8) (N := 48) (ci := 8) rfl rfl [0, 1, 2, 3, 4, 5, 6, 7] rfl (by decide) (mrgE rfl rfl) rfl rfl rfl rfl rfl hl.1 (Nat.le_of_ble_eq_true rfl) dX8_compound_154 ⟨Nat.zero_le _, Nat.zero_le _⟩ (fun H locs hP hD hS => ?_)
          cases hM
          exact rt_v hx hb hr hlk hP hD hS rfl dX8_compound_157
        · replace hM := if_t c22 hM
          refine lv_aload_n hx hb dX8_compound_84 rfl (lv_at hl 0 rfl) ?_
          refine lv_bipush (v := 16) hx hb dX8_compound_85 (by decide) ?_
          refine lv_aload_n hx hb dX8_compound_87 rfl (lv_at hl 0 rfl) ?_
          refine va_get (D := D) (ci := 8) (v := .int o_L.1) (C := RX8) (T := TX8) (N := 48) hx hb hts layX8 hown hK hP 0 rfl rfl 6 (by decide) (hts _ (inA q984)) (fun _ h9 => h9) rfl dX8_compound_88 ?_
          refine lv_iconst (v := 0) hx hb dX8_compound_91 (by decide) ?_
          obtain ⟨r28, hcr28, hM⟩ := ob_use hM
          refine cl_V (As := [.int 16, .int o_L.1, .int 0]) (rest := []) (wM_CXLNTU cI ad o_X o_L o_N r28 r20 o_O o_E o_Q o_V o_I o_C) [] ⟨hx, hb, hml, hown, hts⟩ (c_Model_down l D cI sd ad o_C o_X o_L o_N r20 o_O o_E o_Q o_V o_I o_T 16 o_L.1 0 r28 hcr28) (cwV2 hts q1245 mvX8_down rfl rfl ⟨(Nat.le_of_ble_eq_true rfl), (Nat.le_of_ble_eq_true rfl)⟩) hK hE hA hP hD hS 0 (T := TX8) (N := 48) (ci := 8) rfl rfl [0, 8, 9, 10, 11, 12, 13, 14] rfl (by decide) (mrgE rfl rfl) rfl rfl rfl rfl rfl hl.1 (Nat.le_of_ble_eq_true rfl) dX8_compound_92 ⟨Nat.zero_le _, Nat.zero_le _⟩ (fun H locs hP hD hS => ?_)
          refine lv_aload_n hx hb dX8_compound_95 rfl (lv_at hl 0 rfl) ?_
          refine lv_bipush (v := 120) hx hb dX8_compound_96 (by decide) ?_
          refine lv_bipush (v := 121) hx hb dX8_compound_98 (by decide) ?_
          obtain ⟨r29, hcr29, hM⟩ := ob_use hM
          refine cl_V (As := [.int 120, .int 121]) (rest := []) (wM_CXLNTU cI ad o_X o_L o_N r28 r29 o_O o_E o_Q o_V o_I o_C) [] ⟨hx, hb, hml, hown, hts⟩ (c_Model_push2 l D cI sd ad o_C o_X o_L o_N r28 o_O o_E o_Q o_V o_I r20 120 121 r29 hcr29) (cwV2 hts q1257 mvX8_push2 rfl rfl ⟨(Nat.le_of_ble_eq_true rfl), (Nat.le_of_ble_eq_true rfl)⟩) hK hE hA hP hD hS 0 (T := TX8) (N := 48) (ci := 8) rfl rfl [0, 15] rfl (by decide) rfl rfl rfl rfl rfl rfl hl.1 (Nat.le_of_ble_eq_true rfl) dX8_compound_100 ⟨Nat.zero_le _, Nat.zero_le _⟩ (fun H locs hP hD hS => ?_)
          refine lv_aload_n hx hb dX8_compound_103 rfl (lv_at hl 0 rfl) ?_
          refine lv_bipush (v := 15) hx hb dX8_compound_104 (by decide) ?_
          obtain ⟨r30, hcr30, hM⟩ := ob_use hM
          refine cl_V (As := [.int 15]) (rest := []) (wM_CXLNTU cI ad o_X o_L o_N r28 r30 o_O o_E o_Q o_V o_I o_C) [] ⟨hx, hb, hml, hown, hts⟩ (c_Model_push l D cI sd ad o_C o_X o_L o_N r28 o_O o_E o_Q o_V o_I r29 15 r30 hcr30) (cwV2 hts q1147 mvX8_push rfl rfl ⟨(Nat.le_of_ble_eq_true rfl), (Nat.le_of_ble_eq_true rfl)⟩) hK hE hA hP hD hS 0 (T := TX8) (N := 48) (ci := 8) rfl rfl [0, 15] rfl (by decide) rfl rfl rfl rfl rfl rfl hl.1 (Nat.le_of_ble_eq_true rfl) dX8_compound_106 ⟨Nat.zero_le _, Nat.zero_le _⟩ (fun H locs hP hD hS => ?_)
          refine lv_aload_n hx hb dX8_compound_109 rfl (lv_at hl 0 rfl) ?_
          obtain ⟨r31, hcr31, hM⟩ := ob_use hM
          refine cl_V (As := []) (rest := []) (wM_CXLNTU cI ad o_X o_L o_N r28 r31 o_O o_E o_Q o_V o_I o_C) [] ⟨hx, hb, hml, hown, hts⟩ (c_Model_pushExpression l D cI sd ad o_C o_X o_L o_N r28 o_O o_E o_Q o_V o_I r30 r31 hcr31) (cwV2 hts q1329 mvX8_pushExpression rfl rfl ⟨(Nat.le_of_ble_eq_true rfl), (Nat.le_of_ble_eq_true rfl)⟩) hK hE hA hP hD hS 0 (T := TX8) (N := 48) (ci := 8) rfl rfl [0, 15] rfl (by decide) rfl rfl rfl rfl rfl rfl hl.1 (Nat.le_of_ble_eq_true rfl) dX8_compound_110 ⟨Nat.zero_le _, Nat.zero_le _⟩ (fun H locs hP hD hS => ?_)
          refine lv_goto (tgt := 153) hx hb dX8_compound_113 (by decide) ?_
          refine lv_aload_n hx hb dX8_compound_153 rfl (lv_at hl 0 rfl) ?_
          obtain ⟨r32, hcr32, hM⟩ := ob_use hM
          refine cl_V (As := []) (rest := []) (wM_CXLNTU cI ad o_X r32.1 r32.2 r28 r31 o_O o_E o_Q o_V o_I o_C) [] ⟨hx, hb, hml, hown, hts⟩ (c_Model_step l D cI sd ad r28 r31 o_O o_E o_Q o_V o_I o_C o_X o_L o_N r32 hcr32) (cwV2 hts q1151 mvX8_step rfl rfl ⟨(Nat.le_of_ble_eq_true rfl), (Nat.le_of_ble_eq_true rfl)⟩) hK hE hA hP hD hS 0 (T := TX8) (N := 48) (ci := 8) rfl rfl [0, 1, 2, 3, 4, 5, 6, 7] rfl (by decide) (mrgE rfl rfl) rfl rfl rfl rfl rfl hl.1 (Nat.le_of_ble_eq_true rfl) dX8_compound_154 ⟨Nat.zero_le _, Nat.zero_le _⟩ (fun H locs hP hD hS => ?_)
          cases hM
          exact rt_v hx hb hr hlk hP hD hS rfl dX8_compound_157
      · replace hM := if_t c21 hM
        refine lv_aload_n hx hb dX8_compound_49 rfl (lv_at hl 0 rfl) ?_
        refine lv_bipush (v := 15) hx hb dX8_compound_50 (by decide) ?_
        refine lv_aload_n hx hb dX8_compound_52 rfl (lv_at hl 0 rfl) ?_
        refine va_get (D := D) (ci := 8) (v := .int o_L.1) (C := RX8) (T := TX8) (N := 48) hx hb hts layX8 hown hK hP 0 rfl rfl 6 (by decide) (hts _ (inA q984)) (fun _ h9 => h9) rfl dX8_compound_53 ?_
        refine lv_iconst (v := 0) hx hb dX8_compound_56 (by decide) ?_
        obtain ⟨r33, hcr33, hM⟩ := ob_use hM
        refine cl_V (As := [.int 15, .int o_L.1, .int 0]) (rest := []) (wM_CXLNTU cI ad o_X o_L o_N r33 r20 o_O o_E o_Q o_V o_I o_C) [] ⟨hx, hb, hml, hown, hts⟩ (c_Model_down l D cI sd ad o_C o_X o_L o_N r20 o_O o_E o_Q o_V o_I o_T 15 o_L.1 0 r33 hcr33) (cwV2 hts q1245 mvX8_down rfl rfl ⟨(Nat.le_of_ble_eq_true rfl), (Nat.le_of_ble_eq_true rfl)⟩) hK hE hA hP hD hS 0 (T := TX8) (N := 48) (ci := 8) rfl rfl [0, 8, 9, 10, 11, 12, 13, 14] rfl (by decide) (mrgE rfl rfl) rfl rfl rfl rfl rfl hl.1 (Nat.le_of_ble_eq_true rfl) dX8_compound_57 ⟨Nat.zero_le _, Nat.zero_le _⟩ (fun H locs hP hD hS => ?_)
        refine lv_aload_n hx hb dX8_compound_60 rfl (lv_at hl 0 rfl) ?_
        refine lv_bipush (v := 117) hx hb dX8_compound_61 (by decide) ?_
        refine lv_bipush (v := 119) hx hb dX8_compound_63 (by decide) ?_
        obtain ⟨r34, hcr34, hM⟩ := ob_use hM
        refine cl_V (As := [.int 117, .int 119]) (rest := []) (wM_CXLNTU cI ad o_X o_L o_N r33 r34 o_O o_E o_Q o_V o_I o_C) [] ⟨hx, hb, hml, hown, hts⟩ (c_Model_push2 l D cI sd ad o_C o_X o_L o_N r33 o_O o_E o_Q o_V o_I r20 117 119 r34 hcr34) (cwV2 hts q1257 mvX8_push2 rfl rfl ⟨(Nat.le_of_ble_eq_true rfl), (Nat.le_of_ble_eq_true rfl)⟩) hK hE hA hP hD hS 0 (T := TX8) (N := 48) (ci := 8) rfl rfl [0, 15] rfl (by decide) rfl rfl rfl rfl rfl rfl hl.1 (Nat.le_of_ble_eq_true rfl) dX8_compound_65 ⟨Nat.zero_le _, Nat.zero_le _⟩ (fun H locs hP hD hS => ?_)
        refine lv_aload_n hx hb dX8_compound_68 rfl (lv_at hl 0 rfl) ?_
        obtain ⟨r35, hcr35, hM⟩ := ob_use hM
        refine cl_V (As := []) (rest := []) (wM_CXLNTU cI ad o_X o_L o_N r33 r35 o_O o_E o_Q o_V o_I o_C) [] ⟨hx, hb, hml, hown, hts⟩ (c_Model_pushExpression l D cI sd ad o_C o_X o_L o_N r33 o_O o_E o_Q o_V o_I r34 r35 hcr35) (cwV2 hts q1329 mvX8_pushExpression rfl rfl ⟨(Nat.le_of_ble_eq_true rfl), (Nat.le_of_ble_eq_true rfl)⟩) hK hE hA hP hD hS 0 (T := TX8) (N := 48) (ci := 8) rfl rfl [0, 15] rfl (by decide) rfl rfl rfl rfl rfl rfl hl.1 (Nat.le_of_ble_eq_true rfl) dX8_compound_69 ⟨Nat.zero_le _, Nat.zero_le _⟩ (fun H locs hP hD hS => ?_)
        refine lv_goto (tgt := 153) hx hb dX8_compound_72 (by decide) ?_
        refine lv_aload_n hx hb dX8_compound_153 rfl (lv_at hl 0 rfl) ?_
        obtain ⟨r36, hcr36, hM⟩ := ob_use hM
        refine cl_V (As := []) (rest := []) (wM_CXLNTU cI ad o_X r36.1 r36.2 r33 r35 o_O o_E o_Q o_V o_I o_C) [] ⟨hx, hb, hml, hown, hts⟩ (c_Model_step l D cI sd ad r33 r35 o_O o_E o_Q o_V o_I o_C o_X o_L o_N r36 hcr36) (cwV2 hts q1151 mvX8_step rfl rfl ⟨(Nat.le_of_ble_eq_true rfl), (Nat.le_of_ble_eq_true rfl)⟩) hK hE hA hP hD hS 0 (T := TX8) (N := 48) (ci := 8) rfl rfl [0, 1, 2, 3, 4, 5, 6, 7] rfl (by decide) (mrgE rfl rfl) rfl rfl rfl rfl rfl hl.1 (Nat.le_of_ble_eq_true rfl) dX8_compound_154 ⟨Nat.zero_le _, Nat.zero_le _⟩ (fun H locs hP hD hS => ?_)
        cases hM
        exact rt_v hx hb hr hlk hP hD hS rfl dX8_compound_157
  · replace hM := if_t c1 hM
    refine lv_bipush (v := 20) hx hb dX8_compound_16 (by decide) ?_
    refine lv_goto (tgt := 37) hx hb dX8_compound_18 (by decide) ?_
    obtain ⟨r37, hcr37, hM⟩ := ob_use hM
    refine cl_V (As := [.int 115, .int 118, .int 60, .int 20]) (rest := []) (wM_CXLNTU cI ad o_X o_L o_N o_T r37 o_O o_E o_Q o_V o_I o_C) [] ⟨hx, hb, hml, hown, hts⟩ (c_Model_push4 l D cI sd ad o_C o_X o_L o_N o_T o_O o_E o_Q o_V o_I o_U 115 118 60 20 r37 hcr37) (cwV2 hts q1253 mvX8_push4 rfl rfl ⟨(Nat.le_of_ble_eq_true rfl), (Nat.le_of_ble_eq_true rfl)⟩) hK hE hA hP hD hS 0 (T := TX8) (N := 48) (ci := 8) rfl rfl [0, 15] rfl (by decide) rfl rfl rfl rfl rfl rfl hl.1 (Nat.le_of_ble_eq_true rfl) dX8_compound_37 ⟨Nat.zero_le _, Nat.zero_le _⟩ (fun H locs hP hD hS => ?_)
    refine lv_aload_n hx hb dX8_compound_40 rfl (lv_at hl 0 rfl) ?_
    refine va_get (D := D) (ci := 8) (v := .int o_L.2.1) (C := RX8) (T := TX8) (N := 48) hx hb hts layX8 hown hK hP 0 rfl rfl 7 (by decide) (hts _ (inA q985)) (fun _ h9 => h9) rfl dX8_compound_41 ?_
    refine lv_bipush (v := 16) hx hb dX8_compound_44 (by decide) ?_
    refine lv_icmp_ne (tgt := 75) hx hb dX8_compound_46 (by decide) (fun c38 => ?_) (fun c38 => ?_)
    · replace hM := if_f c38 hM
      refine lv_aload_n hx hb dX8_compound_75 rfl (lv_at hl 0 rfl) ?_
      refine va_get (D := D) (ci := 8) (v := .int o_L.2.1) (C := RX8) (T := TX8) (N := 48) hx hb hts layX8 hown hK hP 0 rfl rfl 7 (by decide) (hts _ (inA q985)) (fun _ h9 => h9) rfl dX8_compound_76 ?_
      refine lv_bipush (v := 21) hx hb dX8_compound_79 (by decide) ?_
      refine lv_icmp_ne (tgt := 116) hx hb dX8_compound_81 (by decide) (fun c39 => ?_) (fun c39 => ?_)
      · replace hM := if_f c39 hM
        refine lv_aload_n hx hb dX8_compound_116 rfl (lv_at hl 0 rfl) ?_
        refine lv_bipush (v := 19) hx hb dX8_compound_117 (by decide) ?_
        refine lv_aload_n hx hb dX8_compound_119 rfl (lv_at hl 0 rfl) ?_
        refine va_get (D := D) (ci := 8) (v := .int o_L.1) (C := RX8) (T := TX8) (N := 48) hx hb hts layX8 hown hK hP 0 rfl rfl 6 (by decide) (hts _ (inA q984)) (fun _ h9 => h9) rfl dX8_compound_120 ?_
        refine lv_iconst (v := 0) hx hb dX8_compound_123 (by decide) ?_
        obtain ⟨r40, hcr40, hM⟩ := ob_use hM
        refine cl_V (As := [.int 19, .int o_L.1, .int 0]) (rest := []) (wM_CXLNTU cI ad o_X o_L o_N r40 r37 o_O o_E o_Q o_V o_I o_C) [] ⟨hx, hb, hml, hown, hts⟩ (c_Model_down l D cI sd ad o_C o_X o_L o_N r37 o_O o_E o_Q o_V o_I o_T 19 o_L.1 0 r40 hcr40) (cwV2 hts q1245 mvX8_down rfl rfl ⟨(Nat.le_of_ble_eq_true rfl), (Nat.le_of_ble_eq_true rfl)⟩) hK hE hA hP hD hS 0 (T := TX8) (N := 48) (ci := 8) rfl rfl [0, 8, 9, 10, 11, 12, 13, 14] rfl (by decide) (mrgE rfl rfl) rfl rfl rfl rfl rfl hl.1 (Nat.le_of_ble_eq_true rfl) dX8_compound_124 ⟨Nat.zero_le _, Nat.zero_le _⟩ (fun H locs hP hD hS => ?_)
        refine lv_aload_n hx hb dX8_compound_127 rfl (lv_at hl 0 rfl) ?_
        refine lv_bipush (v := 126) hx hb dX8_compound_128 (by decide) ?_
        refine lv_bipush (v := 127) hx hb dX8_compound_130 (by decide) ?_
        refine lv_bipush (v := 113) hx hb dX8_compound_132 (by decide) ?_
        refine lv_bipush (v := 24) hx hb dX8_compound_134 (by decide) ?_
        obtain ⟨r41, hcr41, hM⟩ := ob_use hM
        refine cl_V (As := [.int 126, .int 127, .int 113, .int 24]) (rest := []) (wM_CXLNTU cI ad o_X o_L o_N r40 r41 o_O o_E o_Q o_V o_I o_C) [] ⟨hx, hb, hml, hown, hts⟩ (c_Model_push4 l D cI sd ad o_C o_X o_L o_N r40 o_O o_E o_Q o_V o_I r37 126 127 113 24 r41 hcr41) (cwV2 hts q1253 mvX8_push4 rfl rfl ⟨(Nat.le_of_ble_eq_true rfl), (Nat.le_of_ble_eq_true rfl)⟩) hK hE hA hP hD hS 0 (T := TX8) (N := 48) (ci := 8) rfl rfl [0, 15] rfl (by decide) rfl rfl rfl rfl rfl rfl hl.1 (Nat.le_of_ble_eq_true rfl) dX8_compound_136 ⟨Nat.zero_le _, Nat.zero_le _⟩ (fun H locs hP hD hS => ?_)
        refine lv_aload_n hx hb dX8_compound_139 rfl (lv_at hl 0 rfl) ?_
        refine lv_bipush (v := 113) hx hb dX8_compound_140 (by decide) ?_
        refine lv_bipush (v := 50) hx hb dX8_compound_142 (by decide) ?_
        obtain ⟨r42, hcr42, hM⟩ := ob_use hM
        refine cl_V (As := [.int 113, .int 50]) (rest := []) (wM_CXLNTU cI ad o_X o_L o_N r40 r42 o_O o_E o_Q o_V o_I o_C) [] ⟨hx, hb, hml, hown, hts⟩ (c_Model_push2 l D cI sd ad o_C o_X o_L o_N r40 o_O o_E o_Q o_V o_I r41 113 50 r42 hcr42) (cwV2 hts q1257 mvX8_push2 rfl rfl ⟨(Nat.le_of_ble_eq_true rfl), (Nat.le_of_ble_eq_true rfl)⟩) hK hE hA hP hD hS 0 (T := TX8) (N := 48) (ci := 8) rfl rfl [0, 15] rfl (by decide) rfl rfl rfl rfl rfl rfl hl.1 (Nat.le_of_ble_eq_true rfl) dX8_compound_144 ⟨Nat.zero_le _, Nat.zero_le _⟩ (fun H locs hP hD hS => ?_)
        refine lv_aload_n hx hb dX8_compound_147 rfl (lv_at hl 0 rfl) ?_
        refine lv_bipush (v := 105) hx hb dX8_compound_148 (by decide) ?_
        obtain ⟨r43, hcr43, hM⟩ := ob_use hM
        refine cl_V (As := [.int 105]) (rest := []) (wM_CXLNTU cI ad o_X o_L o_N r40 r43 o_O o_E o_Q o_V o_I o_C) [] ⟨hx, hb, hml, hown, hts⟩ (c_Model_push l D cI sd ad o_C o_X o_L o_N r40 o_O o_E o_Q o_V o_I r42 105 r43 hcr43) (cwV2 hts q1147 mvX8_push rfl rfl ⟨(Nat.le_of_ble_eq_true rfl), (Nat.le_of_ble_eq_true rfl)⟩) hK hE hA hP hD hS 0 (T := TX8) (N := 48) (ci := 8) rfl rfl [0, 15] rfl (by decide) rfl rfl rfl rfl rfl rfl hl.1 (Nat.le_of_ble_eq_true rfl) dX8_compound_150 ⟨Nat.zero_le _, Nat.zero_le _⟩ (fun H locs hP hD hS => ?_)
        refine lv_aload_n hx hb dX8_compound_153 rfl (lv_at hl 0 rfl) ?_
        obtain ⟨r44, hcr44, hM⟩ := ob_use hM
        refine cl_V (As := []) (rest := []) (wM_CXLNTU cI ad o_X r44.1 r44.2 r40 r43 o_O o_E o_Q o_V o_I o_C) [] ⟨hx, hb, hml, hown, hts⟩ (c_Model_step l D cI sd ad r40 r43 o_O o_E o_Q o_V o_I o_C o_X o_L o_N r44 hcr44) (cwV2 hts q1151 mvX8_step rfl rfl ⟨(Nat.le_of_ble_eq_true rfl), (Nat.le_of_ble_eq_true rfl)⟩) hK hE hA hP hD hS 0 (T := TX8) (N := 48) (ci := 8) rfl rfl [0, 1, 2, 3, 4, 5, 6, 7] rfl (by decide) (mrgE rfl rfl) rfl rfl rfl rfl rfl hl.1 (Nat.le_of_ble_eq_true rfl) dX8_compound_154 ⟨Nat.zero_le _, Nat.zero_le _⟩ (fun H locs hP hD hS => ?_)
        cases hM
        exact rt_v hx hb hr hlk hP hD hS rfl dX8_compound_157
      · replace hM := if_t c39 hM
        refine lv_aload_n hx hb dX8_compound_84 rfl (lv_at hl 0 rfl) ?_
        refine lv_bipush (v := 16) hx hb dX8_compound_85 (by decide) ?_
        refine lv_aload_n hx hb dX8_compound_87 rfl (lv_at hl 0 rfl) ?_
        refine va_get (D := D) (ci := 8) (v := .int o_L.1) (C := RX8) (T := TX8) (N := 48) hx hb hts layX8 hown hK hP 0 rfl rfl 6 (by decide) (hts _ (inA q984)) (fun _ h9 => h9) rfl dX8_compound_88 ?_
        refine lv_iconst (v := 0) hx hb dX8_compound_91 (by decide) ?_
        obtain ⟨r45, hcr45, hM⟩ := ob_use hM
        refine cl_V (As := [.int 16, .int o_L.1, .int 0]) (rest := []) (wM_CXLNTU cI ad o_X o_L o_N r45 r37 o_O o_E o_Q o_V o_I o_C) [] ⟨hx, hb, hml, hown, hts⟩ (c_Model_down l D cI sd ad o_C o_X o_L o_N r37 o_O o_E o_Q o_V o_I o_T 16 o_L.1 0 r45 hcr45) (cwV2 hts q1245 mvX8_down rfl rfl ⟨(Nat.le_of_ble_eq_true rfl), (Nat.le_of_ble_eq_true rfl)⟩) hK hE hA hP hD hS 0 (T := TX8) (N := 48) (ci := 8) rfl rfl [0, 8, 9, 10, 11, 12, 13, 14] rfl (by decide) (mrgE rfl rfl) rfl rfl rfl rfl rfl hl.1 (Nat.le_of_ble_eq_true rfl) dX8_compound_92 ⟨Nat.zero_le _, Nat.zero_le _⟩ (fun H locs hP hD hS => ?_)
        refine lv_aload_n hx hb dX8_compound_95 rfl (lv_at hl 0 rfl) ?_
        refine lv_bipush (v := 120) hx hb dX8_compound_96 (by decide) ?_
        refine lv_bipush (v := 121) hx hb dX8_compound_98 (by decide) ?_
        obtain ⟨r46, hcr46, hM⟩ := ob_use hM
        refine cl_V (As := [.int 120, .int 121]) (rest := []) (wM_CXLNTU cI ad o_X o_L o_N r45 r46 o_O o_E o_Q o_V o_I o_C) [] ⟨hx, hb, hml, hown, hts⟩ (c_Model_push2 l D cI sd ad o_C o_X o_L o_N r45 o_O o_E o_Q o_V o_I r37 120 121 r46 hcr46) (cwV2 hts q1257 mvX8_push2 rfl rfl ⟨(Nat.le_of_ble_eq_true rfl), (Nat.le_of_ble_eq_true rfl)⟩) hK hE hA hP hD hS 0 (T := TX8) (N := 48) (ci := 8) rfl rfl [0, 15] rfl (by decide) rfl rfl rfl rfl rfl rfl hl.1 (Nat.le_of_ble_eq_true rfl) dX8_compound_100 ⟨Nat.zero_le _, Nat.zero_le _⟩ (fun H locs hP hD hS => ?_)
        refine lv_aload_n hx hb dX8_compound_103 rfl (lv_at hl 0 rfl) ?_
        refine lv_bipush (v := 15) hx hb dX8_compound_104 (by decide) ?_
        obtain ⟨r47, hcr47, hM⟩ := ob_use hM
        refine cl_V (As := [.int 15]) (rest := []) (wM_CXLNTU cI ad o_X o_L o_N r45 r47 o_O o_E o_Q o_V o_I o_C) [] ⟨hx, hb, hml, hown, hts⟩ (c_Model_push l D cI sd ad o_C o_X o_L o_N r45 o_O o_E o_Q o_V o_I r46 15 r47 hcr47) (cwV2 hts q1147 mvX8_push rfl rfl ⟨(Nat.le_of_ble_eq_true rfl), (Nat.le_of_ble_eq_true rfl)⟩) hK hE hA hP hD hS 0 (T := TX8) (N := 48) (ci := 8) rfl rfl [0, 15] rfl (by decide) rfl rfl rfl rfl rfl rfl hl.1 (Nat.le_of_ble_eq_true rfl) dX8_compound_106 ⟨Nat.zero_le _, Nat.zero_le _⟩ (fun H locs hP hD hS => ?_)
        refine lv_aload_n hx hb dX8_compound_109 rfl (lv_at hl 0 rfl) ?_
        obtain ⟨r48, hcr48, hM⟩ := ob_use hM
        refine cl_V (As := []) (rest := []) (wM_CXLNTU cI ad o_X o_L o_N r45 r48 o_O o_E o_Q o_V o_I o_C) [] ⟨hx, hb, hml, hown, hts⟩ (c_Model_pushExpression l D cI sd ad o_C o_X o_L o_N r45 o_O o_E o_Q o_V o_I r47 r48 hcr48) (cwV2 hts q1329 mvX8_pushExpression rfl rfl ⟨(Nat.le_of_ble_eq_true rfl), (Nat.le_of_ble_eq_true rfl)⟩) hK hE hA hP hD hS 0 (T := TX8) (N := 48) (ci := 8) rfl rfl [0, 15] rfl (by decide) rfl rfl rfl rfl rfl rfl hl.1 (Nat.le_of_ble_eq_true rfl) dX8_compound_110 ⟨Nat.zero_le _, Nat.zero_le _⟩ (fun H locs hP hD hS => ?_)
        refine lv_goto (tgt := 153) hx hb dX8_compound_113 (by decide) ?_
        refine lv_aload_n hx hb dX8_compound_153 rfl (lv_at hl 0 rfl) ?_
        obtain ⟨r49, hcr49, hM⟩ := ob_use hM
        refine cl_V (As := []) (rest := []) (wM_CXLNTU cI ad o_X r49.1 r49.2 r45 r48 o_O o_E o_Q o_V o_I o_C) [] ⟨hx, hb, hml, hown, hts⟩ (c_Model_step l D cI sd ad r45 r48 o_O o_E o_Q o_V o_I o_C o_X o_L o_N r49 hcr49) (cwV2 hts q1151 mvX8_step rfl rfl ⟨(Nat.le_of_ble_eq_true rfl), (Nat.le_of_ble_eq_true rfl)⟩) hK hE hA hP hD hS 0 (T := TX8) (N := 48) (ci := 8) rfl rfl [0, 1, 2, 3, 4, 5, 6, 7] rfl (by decide) (mrgE rfl rfl) rfl rfl rfl rfl rfl hl.1 (Nat.le_of_ble_eq_true rfl) dX8_compound_154 ⟨Nat.zero_le _, Nat.zero_le _⟩ (fun H locs hP hD hS => ?_)
        cases hM
        exact rt_v hx hb hr hlk hP hD hS rfl dX8_compound_157
    · replace hM := if_t c38 hM
      refine lv_aload_n hx hb dX8_compound_49 rfl (lv_at hl 0 rfl) ?_
      refine lv_bipush (v := 15) hx hb dX8_compound_50 (by decide) ?_
      refine lv_aload_n hx hb dX8_compound_52 rfl (lv_at hl 0 rfl) ?_
      refine va_get (D := D) (ci := 8) (v := .int o_L.1) (C := RX8) (T := TX8) (N := 48) hx hb hts layX8 hown hK hP 0 rfl rfl 6 (by decide) (hts _ (inA q984)) (fun _ h9 => h9) rfl dX8_compound_53 ?_
      refine lv_iconst (v := 0) hx hb dX8_compound_56 (by decide) ?_
      obtain ⟨r50, hcr50, hM⟩ := ob_use hM
      refine cl_V (As := [.int 15, .int o_L.1, .int 0]) (rest := []) (wM_CXLNTU cI ad o_X o_L o_N r50 r37 o_O o_E o_Q o_V o_I o_C) [] ⟨hx, hb, hml, hown, hts⟩ (c_Model_down l D cI sd ad o_C o_X o_L o_N r37 o_O o_E o_Q o_V o_I o_T 15 o_L.1 0 r50 hcr50) (cwV2 hts q1245 mvX8_down rfl rfl ⟨(Nat.le_of_ble_eq_true rfl), (Nat.le_of_ble_eq_true rfl)⟩) hK hE hA hP hD hS 0 (T := TX8) (N := 48) (ci := 8) rfl rfl [0, 8, 9, 10, 11, 12, 13, 14] rfl (by decide) (mrgE rfl rfl) rfl rfl rfl rfl rfl hl.1 (Nat.le_of_ble_eq_true rfl) dX8_compound_57 ⟨Nat.zero_le _, Nat.zero_le _⟩ (fun H locs hP hD hS => ?_)
      refine lv_aload_n hx hb dX8_compound_60 rfl (lv_at hl 0 rfl) ?_
      refine lv_bipush (v := 117) hx hb dX8_compound_61 (by decide) ?_
      refine lv_bipush (v := 119) hx hb dX8_compound_63 (by decide) ?_
      obtain ⟨r51, hcr51, hM⟩ := ob_use hM
      refine cl_V (As := [.int 117, .int 119]) (rest := []) (wM_CXLNTU cI ad o_X o_L o_N r50 r51 o_O o_E o_Q o_V o_I o_C) [] ⟨hx, hb, hml, hown, hts⟩ (c_Model_push2 l D cI sd ad o_C o_X o_L o_N r50 o_O o_E o_Q o_V o_I r37 117 119 r51 hcr51) (cwV2 hts q1257 mvX8_push2 rfl rfl ⟨(Nat.le_of_ble_eq_true rfl), (Nat.le_of_ble_eq_true rfl)⟩) hK hE hA hP hD hS 0 (T := TX8) (N := 48) (ci := 8) rfl rfl [0, 15] rfl (by decide) rfl rfl rfl rfl rfl rfl hl.1 (Nat.le_of_ble_eq_true rfl) dX8_compound_65 ⟨Nat.zero_le _, Nat.zero_le _⟩ (fun H locs hP hD hS => ?_)
      refine lv_aload_n hx hb dX8_compound_68 rfl (lv_at hl 0 rfl) ?_
      obtain ⟨r52, hcr52, hM⟩ := ob_use hM
      refine cl_V (As := []) (rest := []) (wM_CXLNTU cI ad o_X o_L o_N r50 r52 o_O o_E o_Q o_V o_I o_C) [] ⟨hx, hb, hml, hown, hts⟩ (c_Model_pushExpression l D cI sd ad o_C o_X o_L o_N r50 o_O o_E o_Q o_V o_I r51 r52 hcr52) (cwV2 hts q1329 mvX8_pushExpression rfl rfl ⟨(Nat.le_of_ble_eq_true rfl), (Nat.le_of_ble_eq_true rfl)⟩) hK hE hA hP hD hS 0 (T := TX8) (N := 48) (ci := 8) rfl rfl [0, 15] rfl (by decide) rfl rfl rfl rfl rfl rfl hl.1 (Nat.le_of_ble_eq_true rfl) dX8_compound_69 ⟨Nat.zero_le _, Nat.zero_le _⟩ (fun H locs hP hD hS => ?_)
      refine lv_goto (tgt := 153) hx hb dX8_compound_72 (by decide) ?_
      refine lv_aload_n hx hb dX8_compound_153 rfl (lv_at hl 0 rfl) ?_
      obtain ⟨r53, hcr53, hM⟩ := ob_use hM
      refine cl_V (As := []) (rest := []) (wM_CXLNTU cI ad o_X r53.1 r53.2 r50 r52 o_O o_E o_Q o_V o_I o_C) [] ⟨hx, hb, hml, hown, hts⟩ (c_Model_step l D cI sd ad r50 r52 o_O o_E o_Q o_V o_I o_C o_X o_L o_N r53 hcr53) (cwV2 hts q1151 mvX8_step rfl rfl ⟨(Nat.le_of_ble_eq_true rfl), (Nat.le_of_ble_eq_true rfl)⟩) hK hE hA hP hD hS 0 (T := TX8) (N := 48) (ci := 8) rfl rfl [0, 1, 2, 3, 4, 5, 6, 7] rfl (by decide) (mrgE rfl rfl) rfl rfl rfl rfl rfl hl.1 (Nat.le_of_ble_eq_true rfl) dX8_compound_154 ⟨Nat.zero_le _, Nat.zero_le _⟩ (fun H locs hP hD hS => ?_)
      cases hM
      exact rt_v hx hb hr hlk hP hD hS rfl dX8_compound_157

set_option maxHeartbeats 4000000 in
set_option maxRecDepth 100000 in
theorem c_Model_anOperand (l : Launch) (D : va_G) (cI : ClassId) (sd : Nat → Nat) (ad : Nat → Nat) (o_Q : S_MQ) (o_V : S_MV) (o_I : S_MI) (o_C : S_MC) (o_X : S_MX) (o_L : S_ML) (o_N : S_MN) (o_T : S_MT) (o_U : S_MU) (o_O : S_MO) (o_E : S_ME) (res : S_ML × S_MN × S_MT × S_MU × S_MO × S_ME) (hM : f_Model_anOperand o_C o_X o_L o_N o_T o_U o_O o_E = some res) : Ctr l D cI sd yX8_anOperand (wsM yX8_anOperand cX8_anOperand 1 (Option.none : Option Jvm.ClassFile.FieldType)) { frames := 5, cells := 0, slots := 0, locals := 112 } [.ref (ad 100)] (wM_CXLNTUOE cI ad o_X o_L o_N o_T o_U o_O o_E o_Q o_V o_I o_C) (wM_CXLNTUOE cI ad o_X res.1 res.2.1 res.2.2.1 res.2.2.2.1 res.2.2.2.2.1 res.2.2.2.2.2 o_Q o_V o_I o_C) none := by
  refine Ctr.of (cc := cX8_anOperand) (maxL := 1) (own := RX8) (by decide +kernel) rfl rfl (Nat.le_of_ble_eq_true rfl) ?_
  intro p e s m below meth c A ls hx hb hr hml hown hts hlk hK hE hA hP hD hS hl
  have hl : lv_has ls 1 [(0, .ref (ad 100))] := hl
  unfold f_Model_anOperand at hM
  refine lv_aload_n hx hb dX8_anOperand_0 rfl (lv_at hl 0 rfl) ?_
  refine va_get (D := D) (ci := 8) (v := .int o_L.2.1) (C := RX8) (T := TX8) (N := 48) hx hb hts layX8 hown hK hP 0 rfl rfl 7 (by decide) (hts _ (inA q985)) (fun _ h9 => h9) rfl dX8_anOperand_1 ?_
  refine lv_bipush (v := 64) hx hb dX8_anOperand_4 (by decide) ?_
  refine lv_icmp_eq (tgt := 18) hx hb dX8_anOperand_6 (by decide) (fun c1 => ?_) (fun c1 => ?_)
  · replace hM := if_t c1 hM
    refine lv_aload_n hx hb dX8_anOperand_18 rfl (lv_at hl 0 rfl) ?_
    obtain ⟨r2, hcr2, hM⟩ := ob_use hM
    refine cl_V (As := []) (rest := []) (wM_CXLNTUOE cI ad o_X r2.2.1 o_N o_T o_U r2.2.2 o_E o_Q o_V o_I o_C) (.int r2.1 :: []) ⟨hx, hb, hml, hown, hts⟩ (c_Model_opens l D cI sd ad o_C o_X o_N o_T o_U o_E o_Q o_V o_I o_L o_O r2 hcr2) (cwV2 hts q1321 mvX8_opens rfl rfl ⟨(Nat.le_of_ble_eq_true rfl), (Nat.le_of_ble_eq_true rfl)⟩) hK hE hA hP hD hS 0 (T := TX8) (N := 48) (ci := 8) rfl rfl [0] rfl (by decide) rfl rfl rfl rfl rfl rfl hl.1 (Nat.le_of_ble_eq_true rfl) dX8_anOperand_19 ⟨Nat.zero_le _, Nat.zero_le _⟩ (fun H locs hP hD hS => ?_)
    refine lv_if_eq (tgt := 214) hx hb dX8_anOperand_22 (by decide) (fun c3 => ?_) (fun c3 => ?_)
    · replace hM := if_t c3 hM
      cases hM
      exact rt_v hx hb hr hlk hP hD hS rfl dX8_anOperand_214
    · replace hM := if_f c3 hM
      refine lv_aload_n hx hb dX8_anOperand_25 rfl (lv_at hl 0 rfl) ?_
      refine lv_aload_n hx hb dX8_anOperand_26 rfl (lv_at hl 0 rfl) ?_
      refine va_get (D := D) (ci := 8) (v := .int r2.2.1.2.1) (C := RX8) (T := TX8) (N := 48) hx hb hts layX8 hown hK hP 0 rfl rfl 7 (by decide) (hts _ (inA q985)) (fun _ h9 => h9) rfl dX8_anOperand_27 ?_
      refine lv_bipush (v := 64) hx hb dX8_anOperand_30 (by decide) ?_
      refine lv_icmp_ne (tgt := 40) hx hb dX8_anOperand_32 (by decide) (fun c4 => ?_) (fun c4 => ?_)
      · replace hM := if_f c4 hM
        refine lv_bipush (v := 21) hx hb dX8_anOperand_40 (by decide) ?_
        refine lv_aload_n hx hb dX8_anOperand_42 rfl (lv_at hl 0 rfl) ?_
        refine va_get (D := D) (ci := 8) (v := .int r2.2.1.1) (C := RX8) (T := TX8) (N := 48) hx hb hts layX8 hown hK hP 0 rfl rfl 6 (by decide) (hts _ (inA q984)) (fun _ h9 => h9) rfl dX8_anOperand_43 ?_
        obtain ⟨r5, hcr5, hM⟩ := ob_use hM
        refine cl_V (As := [.int 21, .int r2.2.1.1]) (rest := []) (wM_CXLNTUOE cI ad o_X r2.2.1 o_N o_T o_U r2.2.2 r5 o_Q o_V o_I o_C) [] ⟨hx, hb, hml, hown, hts⟩ (c_Model_waitFor l D cI sd ad o_C o_X r2.2.1 o_N o_T o_U r2.2.2 o_Q o_V o_I o_E 21 r2.2.1.1 r5 hcr5) (cwV2 hts q1381 mvX8_waitFor rfl rfl ⟨(Nat.le_of_ble_eq_true rfl), (Nat.le_of_ble_eq_true rfl)⟩) hK hE hA hP hD hS 0 (T := TX8) (N := 48) (ci := 8) rfl rfl [0, 16, 17, 18, 19] rfl (by decide) (mrgE rfl rfl) rfl rfl rfl rfl rfl hl.1 (Nat.le_of_ble_eq_true rfl) dX8_anOperand_46 ⟨Nat.zero_le _, Nat.zero_le _⟩ (fun H locs hP hD hS => ?_)
        refine lv_aload_n hx hb dX8_anOperand_49 rfl (lv_at hl 0 rfl) ?_
        refine lv_sipush (v := 135) hx hb dX8_anOperand_50 (by decide) ?_
        obtain ⟨r6, hcr6, hM⟩ := ob_use hM
        refine cl_V (As := [.int 135]) (rest := []) (wM_CXLNTUOE cI ad o_X r2.2.1 o_N o_T r6 r2.2.2 r5 o_Q o_V o_I o_C) [] ⟨hx, hb, hml, hown, hts⟩ (c_Model_push l D cI sd ad o_C o_X r2.2.1 o_N o_T r2.2.2 r5 o_Q o_V o_I o_U 135 r6 hcr6) (cwV2 hts q1147 mvX8_push rfl rfl ⟨(Nat.le_of_ble_eq_true rfl), (Nat.le_of_ble_eq_true rfl)⟩) hK hE hA hP hD hS 0 (T := TX8) (N := 48) (ci := 8) rfl rfl [0, 15] rfl (by decide) rfl rfl rfl rfl rfl rfl hl.1 (Nat.le_of_ble_eq_true rfl) dX8_anOperand_53 ⟨Nat.zero_le _, Nat.zero_le _⟩ (fun H locs hP hD hS => ?_)
        refine lv_aload_n hx hb dX8_anOperand_56 rfl (lv_at hl 0 rfl) ?_
        obtain ⟨r7, hcr7, hM⟩ := ob_use hM
        refine cl_V (As := []) (rest := []) (wM_CXLNTUOE cI ad o_X r7.1 r7.2 o_T r6 r2.2.2 r5 o_Q o_V o_I o_C) [] ⟨hx, hb, hml, hown, hts⟩ (c_Model_step l D cI sd ad o_T r6 r2.2.2 r5 o_Q o_V o_I o_C o_X r2.2.1 o_N r7 hcr7) (cwV2 hts q1151 mvX8_step rfl rfl ⟨(Nat.le_of_ble_eq_true rfl), (Nat.le_of_ble_eq_true rfl)⟩) hK hE hA hP hD hS 0 (T := TX8) (N := 48) (ci := 8) rfl rfl [0, 1, 2, 3, 4, 5, 6, 7] rfl (by decide) (mrgE rfl rfl) rfl rfl rfl rfl rfl hl.1 (Nat.le_of_ble_eq_true rfl) dX8_anOperand_57 ⟨Nat.zero_le _, Nat.zero_le _⟩ (fun H locs hP hD hS => ?_)
        refine lv_goto (tgt := 214) hx hb dX8_anOperand_60 (by decide) ?_
        cases hM
        exact rt_v hx hb hr hlk hP hD hS rfl dX8_anOperand_214
      · replace hM := if_t c4 hM
        refine lv_bipush (v := 20) hx hb dX8_anOperand_35 (by decide) ?_
        refine lv_goto (tgt := 42) hx hb dX8_anOperand_37 (by decide) ?_
        refine lv_aload_n hx hb dX8_anOperand_42 rfl (lv_at hl 0 rfl) ?_
        refine va_get (D := D) (ci := 8) (v := .int r2.2.1.1) (C := RX8) (T := TX8) (N := 48) hx hb hts layX8 hown hK hP 0 rfl rfl 6 (by decide) (hts _ (inA q984)) (fun _ h9 => h9) rfl dX8_anOperand_43 ?_
        obtain ⟨r8, hcr8, hM⟩ := ob_use hM
        refine cl_V (As := [.int 20, .int r2.2.1.1]) (rest := []) (wM_CXLNTUOE cI ad o_X r2.2.1 o_N o_T o_U r2.2.2 r8 o_Q o_V o_I o_C) [] ⟨hx, hb, hml, hown, hts⟩ (c_Model_waitFor l D cI sd ad o_C o_X r2.2.1 o_N o_T o_U r2.2.2 o_Q o_V o_I o_E 20 r2.2.1.1 r8 hcr8) (cwV2 hts q1381 mvX8_waitFor rfl rfl ⟨(Nat.le_of_ble_eq_true rfl), (Nat.le_of_ble_eq_true rfl)⟩) hK hE hA hP hD hS 0 (T := TX8) (N := 48) (ci := 8) rfl rfl [0, 16, 17, 18, 19] rfl (by decide) (mrgE rfl rfl) rfl rfl rfl rfl rfl hl.1 (Nat.le_of_ble_eq_true rfl) dX8_anOperand_46 ⟨Nat.zero_le _, Nat.zero_le _⟩ (fun H locs hP hD hS => ?_)
        refine lv_aload_n hx hb dX8_anOperand_49 rfl (lv_at hl 0 rfl) ?_
        refine lv_sipush (v := 135) hx hb dX8_anOperand_50 (by decide) ?_
        obtain ⟨r9, hcr9, hM⟩ := ob_use hM
        refine cl_V (As := [.int 135]) (rest := []) (wM_CXLNTUOE cI ad o_X r2.2.1 o_N o_T r9 r2.2.2 r8 o_Q o_V o_I o_C) [] ⟨hx, hb, hml, hown, hts⟩ (c_Model_push l D cI sd ad o_C o_X r2.2.1 o_N o_T r2.2.2 r8 o_Q o_V o_I o_U 135 r9 hcr9) (cwV2 hts q1147 mvX8_push rfl rfl ⟨(Nat.le_of_ble_eq_true rfl), (Nat.le_of_ble_eq_true rfl)⟩) hK hE hA hP hD hS 0 (T := TX8) (N := 48) (ci := 8) rfl rfl [0, 15] rfl (by decide) rfl rfl rfl rfl rfl rfl hl.1 (Nat.le_of_ble_eq_true rfl) dX8_anOperand_53 ⟨Nat.zero_le _, Nat.zero_le _⟩ (fun H locs hP hD hS => ?_)
        refine lv_aload_n hx hb dX8_anOperand_56 rfl (lv_at hl 0 rfl) ?_
        obtain ⟨r10, hcr10, hM⟩ := ob_use hM
        refine cl_V (As := []) (rest := []) (wM_CXLNTUOE cI ad o_X r10.1 r10.2 o_T r9 r2.2.2 r8 o_Q o_V o_I o_C) [] ⟨hx, hb, hml, hown, hts⟩ (c_Model_step l D cI sd ad o_T r9 r2.2.2 r8 o_Q o_V o_I o_C o_X r2.2.1 o_N r10 hcr10) (cwV2 hts q1151 mvX8_step rfl rfl ⟨(Nat.le_of_ble_eq_true rfl), (Nat.le_of_ble_eq_true rfl)⟩) hK hE hA hP hD hS 0 (T := TX8) (N := 48) (ci := 8) rfl rfl [0, 1, 2, 3, 4, 5, 6, 7] rfl (by decide) (mrgE rfl rfl) rfl rfl rfl rfl rfl hl.1 (Nat.le_of_ble_eq_true rfl) dX8_anOperand_57 ⟨Nat.zero_le _, Nat.zero_le _⟩ (fun H locs hP hD hS => ?_)
        refine lv_goto (tgt := 214) hx hb dX8_anOperand_60 (by decide) ?_
        cases hM
        exact rt_v hx hb hr hlk hP hD hS rfl dX8_anOperand_214
  · replace hM := if_f c1 hM
    refine lv_aload_n hx hb dX8_anOperand_9 rfl (lv_at hl 0 rfl) ?_
    refine va_get (D := D) (ci := 8) (v := .int o_L.2.1) (C := RX8) (T := TX8) (N := 48) hx hb hts layX8 hown hK hP 0 rfl rfl 7 (by decide) (hts _ (inA q985)) (fun _ h9 => h9) rfl dX8_anOperand_10 ?_
    refine lv_bipush (v := 34) hx hb dX8_anOperand_13 (by decide) ?_
    refine lv_icmp_ne (tgt := 63) hx hb dX8_anOperand_15 (by decide) (fun c11 => ?_) (fun c11 => ?_)
    · replace hM := if_f c11 hM
      refine lv_aload_n hx hb dX8_anOperand_63 rfl (lv_at hl 0 rfl) ?_
      refine va_get (D := D) (ci := 8) (v := .int o_L.2.1) (C := RX8) (T := TX8) (N := 48) hx hb hts layX8 hown hK hP 0 rfl rfl 7 (by decide) (hts _ (inA q985)) (fun _ h9 => h9) rfl dX8_anOperand_64 ?_
      refine lv_bipush (v := 81) hx hb dX8_anOperand_67 (by decide) ?_
      refine lv_icmp_ne (tgt := 97) hx hb dX8_anOperand_69 (by decide) (fun c12 => ?_) (fun c12 => ?_)
      · replace hM := if_f c12 hM
        refine lv_aload_n hx hb dX8_anOperand_97 rfl (lv_at hl 0 rfl) ?_
        refine va_get (D := D) (ci := 8) (v := .int o_L.2.1) (C := RX8) (T := TX8) (N := 48) hx hb hts layX8 hown hK hP 0 rfl rfl 7 (by decide) (hts _ (inA q985)) (fun _ h9 => h9) rfl dX8_anOperand_98 ?_
        refine lv_bipush (v := 35) hx hb dX8_anOperand_101 (by decide) ?_
        refine lv_icmp_eq (tgt := 115) hx hb dX8_anOperand_103 (by decide) (fun c13 => ?_) (fun c13 => ?_)
        · replace hM := if_t c13 hM
          refine lv_aload_n hx hb dX8_anOperand_115 rfl (lv_at hl 0 rfl) ?_
          refine lv_aload_n hx hb dX8_anOperand_116 rfl (lv_at hl 0 rfl) ?_
          refine lv_bipush (v := 31) hx hb dX8_anOperand_117 (by decide) ?_
          refine lv_aload_n hx hb dX8_anOperand_119 rfl (lv_at hl 0 rfl) ?_
          refine va_get (D := D) (ci := 8) (v := .int o_L.1) (C := RX8) (T := TX8) (N := 48) hx hb hts layX8 hown hK hP 0 rfl rfl 6 (by decide) (hts _ (inA q984)) (fun _ h9 => h9) rfl dX8_anOperand_120 ?_
          refine lv_aload_n hx hb dX8_anOperand_123 rfl (lv_at hl 0 rfl) ?_
          refine va_get (D := D) (ci := 8) (v := .int o_L.2.1) (C := RX8) (T := TX8) (N := 48) hx hb hts layX8 hown hK hP 0 rfl rfl 7 (by decide) (hts _ (inA q985)) (fun _ h9 => h9) rfl dX8_anOperand_124 ?_
          refine lv_bipush (v := 35) hx hb dX8_anOperand_127 (by decide) ?_
          refine lv_icmp_ne (tgt := 136) hx hb dX8_anOperand_129 (by decide) (fun c14 => ?_) (fun c14 => ?_)
          · replace hM := if_f c14 hM
            refine lv_iconst (v := 0) hx hb dX8_anOperand_136 (by decide) ?_
            obtain ⟨r15, hcr15, hM⟩ := ob_use hM
            refine cl_V (As := [.int 31, .int o_L.1, .int 0]) (rest := [.ref (ad 100)]) (wM_CXLNTUOE cI ad o_X o_L o_N r15.2 o_U o_O o_E o_Q o_V o_I o_C) (.int r15.1 :: [.ref (ad 100)]) ⟨hx, hb, hml, hown, hts⟩ (c_Model_make l D cI sd ad o_C o_X o_L o_N o_U o_O o_E o_Q o_V o_I o_T 31 o_L.1 0 r15 hcr15) (cwV2 hts q1143 mvX8_make rfl rfl ⟨(Nat.le_of_ble_eq_true rfl), (Nat.le_of_ble_eq_true rfl)⟩) hK hE hA hP hD hS 0 (T := TX8) (N := 48) (ci := 8) rfl rfl [0, 8, 9, 10, 11, 12, 13, 14] rfl (by decide) (mrgE rfl rfl) rfl rfl rfl rfl rfl hl.1 (Nat.le_of_ble_eq_true rfl) dX8_anOperand_137 ⟨Nat.zero_le _, Nat.zero_le _⟩ (fun H locs hP hD hS => ?_)
            obtain ⟨r16, hcr16, hM⟩ := ob_use hM
            refine cl_V (As := [.int r15.1]) (rest := []) (wM_CXLNTUOE cI ad o_X o_L o_N r16.1 o_U r16.2.1 r16.2.2 o_Q o_V o_I o_C) [] ⟨hx, hb, hml, hown, hts⟩ (c_Model_operandCame l D cI sd ad o_C o_X o_L o_N o_U o_Q o_V o_I r15.2 o_O o_E r15.1 r16 hcr16) (cwV2 hts q1389 mvX8_operandCame rfl rfl ⟨(Nat.le_of_ble_eq_true rfl), (Nat.le_of_ble_eq_true rfl)⟩) hK hE hA hP hD hS 0 (T := TX8) (N := 48) (ci := 8) rfl rfl [0, 8, 9, 10, 11, 12, 13, 14, 16, 17, 18, 19] rfl (by decide) (mrgE rfl rfl) rfl rfl rfl rfl rfl hl.1 (Nat.le_of_ble_eq_true rfl) dX8_anOperand_140 ⟨Nat.zero_le _, Nat.zero_le _⟩ (fun H locs hP hD hS => ?_)
            refine lv_aload_n hx hb dX8_anOperand_143 rfl (lv_at hl 0 rfl) ?_
            obtain ⟨r17, hcr17, hM⟩ := ob_use hM
            refine cl_V (As := []) (rest := []) (wM_CXLNTUOE cI ad o_X r17.1 r17.2 r16.1 o_U r16.2.1 r16.2.2 o_Q o_V o_I o_C) [] ⟨hx, hb, hml, hown, hts⟩ (c_Model_step l D cI sd ad r16.1 o_U r16.2.1 r16.2.2 o_Q o_V o_I o_C o_X o_L o_N r17 hcr17) (cwV2 hts q1151 mvX8_step rfl rfl ⟨(Nat.le_of_ble_eq_true rfl), (Nat.le_of_ble_eq_true rfl)⟩) hK hE hA hP hD hS 0 (T := TX8) (N := 48) (ci := 8) rfl rfl [0, 1, 2, 3, 4, 5, 6, 7] rfl (by decide) (mrgE rfl rfl) rfl rfl rfl rfl rfl hl.1 (Nat.le_of_ble_eq_true rfl) dX8_anOperand_144 ⟨Nat.zero_le _, Nat.zero_le _⟩ (fun H locs hP hD hS => ?_)
            refine lv_goto (tgt := 214) hx hb dX8_anOperand_147 (by decide) ?_
            cases hM
            exact rt_v hx hb hr hlk hP hD hS rfl dX8_anOperand_214
          · replace hM := if_t c14 hM
            refine lv_iconst (v := 1) hx hb dX8_anOperand_132 (by decide) ?_
            refine lv_goto (tgt := 137) hx hb dX8_anOperand_133 (by decide) ?_
            obtain ⟨r18, hcr18, hM⟩ := ob_use hM
            refine cl_V (As := [.int 31, .int o_L.1, .int 1]) (rest := [.ref (ad 100)]) (wM_CXLNTUOE cI ad o_X o_L o_N r18.2 o_U o_O o_E o_Q o_V o_I o_C) (.int r18.1 :: [.ref (ad 100)]) ⟨hx, hb, hml, hown, hts⟩ (c_Model_make l D cI sd ad o_C o_X o_L o_N o_U o_O o_E o_Q o_V o_I o_T 31 o_L.1 1 r18 hcr18) (cwV2 hts q1143 mvX8_make rfl rfl ⟨(Nat.le_of_ble_eq_true rfl), (Nat.le_of_ble_eq_true rfl)⟩) hK hE hA hP hD hS 0 (T := TX8) (N := 48) (ci := 8) rfl rfl [0, 8, 9, 10, 11, 12, 13, 14] rfl (by decide) (mrgE rfl rfl) rfl rfl rfl rfl rfl hl.1 (Nat.le_of_ble_eq_true rfl) dX8_anOperand_137 ⟨Nat.zero_le _, Nat.zero_le _⟩ (fun H locs hP hD hS => ?_)
            obtain ⟨r19, hcr19, hM⟩ := ob_use hM
            refine cl_V (As := [.int r18.1]) (rest := []) (wM_CXLNTUOE cI ad o_X o_L o_N r19.1 o_U r19.2.1 r19.2.2 o_Q o_V o_I o_C) [] ⟨hx, hb, hml, hown, hts⟩ (c_Model_operandCame l D cI sd ad o_C o_X o_L o_N o_U o_Q o_V o_I r18.2 o_O o_E r18.1 r19 hcr19) (cwV2 hts q1389 mvX8_operandCame rfl rfl ⟨(Nat.le_of_ble_eq_true rfl), (Nat.le_of_ble_eq_true rfl)⟩) hK hE hA hP hD hS 0 (T := TX8) (N := 48) (ci := 8) rfl rfl [0, 8, 9, 10, 11, 12, 13, 14, 16, 17, 18, 19] rfl (by decide) (mrgE rfl rfl) rfl rfl rfl rfl rfl hl.1 (Nat.le_of_ble_eq_true rfl) dX8_anOperand_140 ⟨Nat.zero_le _, Nat.zero_le _⟩ (fun H locs hP hD hS => ?_)
            refine lv_aload_n hx hb dX8_anOperand_143 rfl (lv_at hl 0 rfl) ?_
            obtain ⟨r20, hcr20, hM⟩ := ob_use hM
            refine cl_V (As := []) (rest := []) (wM_CXLNTUOE cI ad o_X r20.1 r20.2 r19.1 o_U r19.2.1 r19.2.2 o_Q o_V o_I o_C) [] ⟨hx, hb, hml, hown, hts⟩ (c_Model_step l D cI sd ad r19.1 o_U r19.2.1 r19.2.2 o_Q o_V o_I o_C o_X o_L o_N r20 hcr20) (cwV2 hts q1151 mvX8_step rfl rfl ⟨(Nat.le_of_ble_eq_true rfl), (Nat.le_of_ble_eq_true rfl)⟩) hK hE hA hP hD hS 0 (T := TX8) (N := 48) (ci := 8) rfl rfl [0, 1, 2, 3, 4, 5, 6, 7] rfl (by decide) (mrgE rfl rfl) rfl rfl rfl rfl rfl hl.1 (Nat.le_of_ble_eq_true rfl) dX8_anOperand_144 ⟨Nat.zero_le _, Nat.zero_le _⟩ (fun H locs hP hD hS => ?_)
            refine lv_goto (tgt := 214) hx hb dX8_anOperand_147 (by decide) ?_
            cases hM
            exact rt_v hx hb hr hlk hP hD hS rfl dX8_anOperand_214
        · replace hM := if_f c13 hM
          refine lv_aload_n hx hb dX8_anOperand_106 rfl (lv_at hl 0 rfl) ?_
          refine va_get (D := D) (ci := 8) (v := .int o_L.2.1) (C := RX8) (T := TX8) (N := 48) hx hb hts layX8 hown hK hP 0 rfl rfl 7 (by decide) (hts _ (inA q985)) (fun _ h9 => h9) rfl dX8_anOperand_107 ?_
          refine lv_bipush (v := 36) hx hb dX8_anOperand_110 (by decide) ?_
          refine lv_icmp_ne (tgt := 150) hx hb dX8_anOperand_112 (by decide) (fun c21 => ?_) (fun c21 => ?_)
          · replace hM := if_f c21 hM
            refine lv_aload_n hx hb dX8_anOperand_150 rfl (lv_at hl 0 rfl) ?_
            refine va_get (D := D) (ci := 8) (v := .int o_L.2.1) (C := RX8) (T := TX8) (N := 48) hx hb hts layX8 hown hK hP 0 rfl rfl 7 (by decide) (hts _ (inA q985)) (fun _ h9 => h9) rfl dX8_anOperand_151 ?_
            refine lv_bipush (v := 55) hx hb dX8_anOperand_154 (by decide) ?_
            refine lv_icmp_ne (tgt := 183) hx hb dX8_anOperand_156 (by decide) (fun c22 => ?_) (fun c22 => ?_)
            · replace hM := if_f c22 hM
              refine lv_aload_n hx hb dX8_anOperand_183 rfl (lv_at hl 0 rfl) ?_
              refine va_get (D := D) (ci := 8) (v := .int o_L.2.1) (C := RX8) (T := TX8) (N := 48) hx hb hts layX8 hown hK hP 0 rfl rfl 7 (by decide) (hts _ (inA q985)) (fun _ h9 => h9) rfl dX8_anOperand_184 ?_
              refine lv_bipush (v := 80) hx hb dX8_anOperand_187 (by decide) ?_
              refine lv_icmp_ne (tgt := 210) hx hb dX8_anOperand_189 (by decide) (fun c23 => ?_) (fun c23 => ?_)
              · replace hM := if_f c23 hM
                refine lv_aload_n hx hb dX8_anOperand_210 rfl (lv_at hl 0 rfl) ?_
                obtain ⟨r24, hcr24, hM⟩ := ob_use hM
                refine cl_V (As := []) (rest := []) (wM_CXLNTUOE cI ad o_X r24 o_N o_T o_U o_O o_E o_Q o_V o_I o_C) [] ⟨hx, hb, hml, hown, hts⟩ (c_Model_wrong l D cI sd ad o_C o_X o_N o_T o_U o_O o_E o_Q o_V o_I o_L r24 hcr24) (cwV2 hts q1233 mvX8_wrong rfl rfl ⟨(Nat.le_of_ble_eq_true rfl), (Nat.le_of_ble_eq_true rfl)⟩) hK hE hA hP hD hS 0 (T := TX8) (N := 48) (ci := 8) rfl rfl [0] rfl (by decide) rfl rfl rfl rfl rfl rfl hl.1 (Nat.le_of_ble_eq_true rfl) dX8_anOperand_211 ⟨Nat.zero_le _, Nat.zero_le _⟩ (fun H locs hP hD hS => ?_)
                cases hM
                exact rt_v hx hb hr hlk hP hD hS rfl dX8_anOperand_214
              · replace hM := if_t c23 hM
                refine lv_aload_n hx hb dX8_anOperand_192 rfl (lv_at hl 0 rfl) ?_
                obtain ⟨r25, hcr25, hM⟩ := ob_use hM
                refine cl_V (As := []) (rest := []) (wM_CXLNTUOE cI ad o_X o_L o_N o_T o_U r25 o_E o_Q o_V o_I o_C) [] ⟨hx, hb, hml, hown, hts⟩ (c_Model_keepName l D cI sd ad o_C o_X o_N o_T o_U o_E o_Q o_V o_I o_L o_O r25 hcr25) (cwV2 hts q1317 mvX8_keepName rfl rfl ⟨(Nat.le_of_ble_eq_true rfl), (Nat.le_of_ble_eq_true rfl)⟩) hK hE hA hP hD hS 0 (T := TX8) (N := 48) (ci := 8) rfl rfl [0] rfl (by decide) rfl rfl rfl rfl rfl rfl hl.1 (Nat.le_of_ble_eq_true rfl) dX8_anOperand_193 ⟨Nat.zero_le _, Nat.zero_le _⟩ (fun H locs hP hD hS => ?_)
                refine lv_aload_n hx hb dX8_anOperand_196 rfl (lv_at hl 0 rfl) ?_
                refine lv_sipush (v := 139) hx hb dX8_anOperand_197 (by decide) ?_
                obtain ⟨r26, hcr26, hM⟩ := ob_use hM
                refine cl_V (As := [.int 139]) (rest := []) (wM_CXLNTUOE cI ad o_X o_L o_N o_T r26 r25 o_E o_Q o_V o_I o_C) [] ⟨hx, hb, hml, hown, hts⟩ (c_Model_push l D cI sd ad o_C o_X o_L o_N o_T r25 o_E o_Q o_V o_I o_U 139 r26 hcr26) (cwV2 hts q1147 mvX8_push rfl rfl ⟨(Nat.le_of_ble_eq_true rfl), (Nat.le_of_ble_eq_true rfl)⟩) hK hE hA hP hD hS 0 (T := TX8) (N := 48) (ci := 8) rfl rfl [0, 15] rfl (by decide) rfl rfl rfl rfl rfl rfl hl.1 (Nat.le_of_ble_eq_true rfl) dX8_anOperand_200 ⟨Nat.zero_le _, Nat.zero_le _⟩ (fun H locs hP hD hS => ?_)
                refine lv_aload_n hx hb dX8_anOperand_203 rfl (lv_at hl 0 rfl) ?_
                obtain ⟨r27, hcr27, hM⟩ := ob_use hM
                refine cl_V (As := []) (rest := []) (wM_CXLNTUOE cI ad o_X r27.1 r27.2 o_T r26 r25 o_E o_Q o_V o_I o_C) [] ⟨hx, hb, hml, hown, hts⟩ (c_Model_step l D cI sd ad o_T r26 r25 o_E o_Q o_V o_I o_C o_X o_L o_N r27 hcr27) (cwV2 hts q1151 mvX8_step rfl rfl ⟨(Nat.le_of_ble_eq_true rfl), (Nat.le_of_ble_eq_true rfl)⟩) hK hE hA hP hD hS 0 (T := TX8) (N := 48) (ci := 8) rfl rfl [0, 1, 2, 3, 4, 5, 6, 7] rfl (by decide) (mrgE rfl rfl) rfl rfl rfl rfl rfl hl.1 (Nat.le_of_ble_eq_true rfl) dX8_anOperand_204 ⟨Nat.zero_le _, Nat.zero_le _⟩ (fun H locs hP hD hS => ?_)
                refine lv_goto (tgt := 214) hx hb dX8_anOperand_207 (by decide) ?_
                cases hM
                exact rt_v hx hb hr hlk hP hD hS rfl dX8_anOperand_214
            · replace hM := if_t c22 hM
              refine lv_aload_n hx hb dX8_anOperand_159 rfl (lv_at hl 0 rfl) ?_
              obtain ⟨r28, hcr28, hM⟩ := ob_use hM
              refine cl_V (As := []) (rest := []) (wM_CXLNTUOE cI ad o_X r28.2.1 o_N o_T o_U r28.2.2 o_E o_Q o_V o_I o_C) (.int r28.1 :: []) ⟨hx, hb, hml, hown, hts⟩ (c_Model_opens l D cI sd ad o_C o_X o_N o_T o_U o_E o_Q o_V o_I o_L o_O r28 hcr28) (cwV2 hts q1321 mvX8_opens rfl rfl ⟨(Nat.le_of_ble_eq_true rfl), (Nat.le_of_ble_eq_true rfl)⟩) hK hE hA hP hD hS 0 (T := TX8) (N := 48) (ci := 8) rfl rfl [0] rfl (by decide) rfl rfl rfl rfl rfl rfl hl.1 (Nat.le_of_ble_eq_true rfl) dX8_anOperand_160 ⟨Nat.zero_le _, Nat.zero_le _⟩ (fun H locs hP hD hS => ?_)
              refine lv_if_eq (tgt := 214) hx hb dX8_anOperand_163 (by decide) (fun c29 => ?_) (fun c29 => ?_)
              · replace hM := if_t c29 hM
                cases hM
                exact rt_v hx hb hr hlk hP hD hS rfl dX8_anOperand_214
              · replace hM := if_f c29 hM
                refine lv_aload_n hx hb dX8_anOperand_166 rfl (lv_at hl 0 rfl) ?_
                refine lv_sipush (v := 138) hx hb dX8_anOperand_167 (by decide) ?_
                refine lv_sipush (v := 134) hx hb dX8_anOperand_170 (by decide) ?_
                obtain ⟨r30, hcr30, hM⟩ := ob_use hM
                refine cl_V (As := [.int 138, .int 134]) (rest := []) (wM_CXLNTUOE cI ad o_X r28.2.1 o_N o_T r30 r28.2.2 o_E o_Q o_V o_I o_C) [] ⟨hx, hb, hml, hown, hts⟩ (c_Model_push2 l D cI sd ad o_C o_X r28.2.1 o_N o_T r28.2.2 o_E o_Q o_V o_I o_U 138 134 r30 hcr30) (cwV2 hts q1257 mvX8_push2 rfl rfl ⟨(Nat.le_of_ble_eq_true rfl), (Nat.le_of_ble_eq_true rfl)⟩) hK hE hA hP hD hS 0 (T := TX8) (N := 48) (ci := 8) rfl rfl [0, 15] rfl (by decide) rfl rfl rfl rfl rfl rfl hl.1 (Nat.le_of_ble_eq_true rfl) dX8_anOperand_173 ⟨Nat.zero_le _, Nat.zero_le _⟩ (fun H locs hP hD hS => ?_)
                refine lv_aload_n hx hb dX8_anOperand_176 rfl (lv_at hl 0 rfl) ?_
                obtain ⟨r31, hcr31, hM⟩ := ob_use hM
                refine cl_V (As := []) (rest := []) (wM_CXLNTUOE cI ad o_X r31.1 r31.2 o_T r30 r28.2.2 o_E o_Q o_V o_I o_C) [] ⟨hx, hb, hml, hown, hts⟩ (c_Model_step l D cI sd ad o_T r30 r28.2.2 o_E o_Q o_V o_I o_C o_X r28.2.1 o_N r31 hcr31) (cwV2 hts q1151 mvX8_step rfl rfl ⟨(Nat.le_of_ble_eq_true rfl), (Nat.le_of_ble_eq_true rfl)⟩) hK hE hA hP hD hS 0 (T := TX8) (N := 48) (ci := 8) rfl rfl [0, 1, 2, 3, 4, 5, 6, 7] rfl (by decide) (mrgE rfl rfl) rfl rfl rfl rfl rfl hl.1 (Nat.le_of_ble_eq_true rfl) dX8_anOperand_177 ⟨Nat.zero_le _, Nat.zero_le _⟩ (fun H locs hP hD hS => ?_)
                refine lv_goto (tgt := 214) hx hb dX8_anOperand_180 (by decide) ?_
                cases hM
                exact rt_v hx hb hr hlk hP hD hS rfl dX8_anOperand_214
          · replace hM := if_t c21 hM
            refine lv_aload_n hx hb dX8_anOperand_115 rfl (lv_at hl 0 rfl) ?_
            refine lv_aload_n hx hb dX8_anOperand_116 rfl (lv_at hl 0 rfl) ?_
            refine lv_bipush (v := 31) hx hb dX8_anOperand_117 (by decide) ?_
            refine lv_aload_n hx hb dX8_anOperand_119 rfl (lv_at hl 0 rfl) ?_
            refine va_get (D := D) (ci := 8) (v := .int o_L.1) (C := RX8) (T := TX8) (N := 48) hx hb hts layX8 hown hK hP 0 rfl rfl 6 (by decide) (hts _ (inA q984)) (fun _ h9 => h9) rfl dX8_anOperand_120 ?_
            refine lv_aload_n hx hb dX8_anOperand_123 rfl (lv_at hl 0 rfl) ?_
            refine va_get (D := D) (ci := 8) (v := .int o_L.2.1) (C := RX8) (T := TX8) (N := 48) hx hb hts layX8 hown hK hP 0 rfl rfl 7 (by decide) (hts _ (inA q985)) (fun _ h9 => h9) rfl dX8_anOperand_124 ?_
            refine lv_bipush (v := 35) hx hb dX8_anOperand_127 (by decide) ?_
            refine lv_icmp_ne (tgt := 136) hx hb dX8_anOperand_129 (by decide) (fun c32 => ?_) (fun c32 => ?_)
            · replace hM := if_f c32 hM
              refine lv_iconst (v := 0) hx hb dX8_anOperand_136 (by decide) ?_
              obtain ⟨r33, hcr33, hM⟩ := ob_use hM
              refine cl_V (As := [.int 31, .int o_L.1, .int 0]) (rest := [.ref (ad 100)]) (wM_CXLNTUOE cI ad o_X o_L o_N r33.2 o_U o_O o_E o_Q o_V o_I o_C) (.int r33.1 :: [.ref (ad 100)]) ⟨hx, hb, hml, hown, hts⟩ (c_Model_make l D cI sd ad o_C o_X o_L o_N o_U o_O o_E o_Q o_V o_I o_T 31 o_L.1 0 r33 hcr33) (cwV2 hts q1143 mvX8_make rfl rfl ⟨(Nat.le_of_ble_eq_true rfl), (Nat.le_of_ble_eq_true rfl)⟩) hK hE hA hP hD hS 0 (T := TX8) (N := 48) (ci := 8) rfl rfl [0, 8, 9, 10, 11, 12, 13, 14] rfl (by decide) (mrgE rfl rfl) rfl rfl rfl rfl rfl hl.1 (Nat.le_of_ble_eq_true rfl) dX8_anOperand_137 ⟨Nat.zero_le _, Nat.zero_le _⟩ (fun H locs hP hD hS => ?_)
              obtain ⟨r34, hcr34, hM⟩ := ob_use hM
              refine cl_V (As := [.int r33.1]) (rest := []) (wM_CXLNTUOE cI ad o_X o_L o_N r34.1 o_U r34.2.1 r34.2.2 o_Q o_V o_I o_C) [] ⟨hx, hb, hml, hown, hts⟩ (c_Model_operandCame l D cI sd ad o_C o_X o_L o_N o_U o_Q o_V o_I r33.2 o_O o_E r33.1 r34 hcr34) (cwV2 hts q1389 mvX8_operandCame rfl rfl ⟨(Nat.le_of_ble_eq_true rfl), (Nat.le_of_ble_eq_true rfl)⟩) hK hE hA hP hD hS 0 (T := TX8) (N := 48) (ci := 8) rfl rfl [0, 8, 9, 10, 11, 12, 13, 14, 16, 17, 18, 19] rfl (by decide) (mrgE rfl rfl) rfl rfl rfl rfl rfl hl.1 (Nat.le_of_ble_eq_true rfl) dX8_anOperand_140 ⟨Nat.zero_le _, Nat.zero_le _⟩ (fun H locs hP hD hS => ?_)
              refine lv_aload_n hx hb dX8_anOperand_143 rfl (lv_at hl 0 rfl) ?_
              obtain ⟨r35, hcr35, hM⟩ := ob_use hM
              refine cl_V (As := []) (rest := []) (wM_CXLNTUOE cI ad o_X r35.1 r35.2 r34.1 o_U r34.2.1 r34.2.2 o_Q o_V o_I o_C) [] ⟨hx, hb, hml, hown, hts⟩ (c_Model_step l D cI sd ad r34.1 o_U r34.2.1 r34.2.2 o_Q o_V o_I o_C o_X o_L o_N r35 hcr35) (cwV2 hts q1151 mvX8_step rfl rfl ⟨(Nat.le_of_ble_eq_true rfl), (Nat.le_of_ble_eq_true rfl)⟩) hK hE hA hP hD hS 0 (T := TX8) (N := 48) (ci := 8) rfl rfl [0, 1, 2, 3, 4, 5, 6, 7] rfl (by decide) (mrgE rfl rfl) rfl rfl rfl rfl rfl hl.1 (Nat.le_of_ble_eq_true rfl) dX8_anOperand_144 ⟨Nat.zero_le _, Nat.zero_le _⟩ (fun H locs hP hD hS => ?_)
              refine lv_goto (tgt := 214) hx hb dX8_anOperand_147 (by decide) ?_
              cases hM
              exact rt_v hx hb hr hlk hP hD hS rfl dX8_anOperand_214
            · replace hM := if_t c32 hM
              refine lv_iconst (v := 1) hx hb dX8_anOperand_132 (by decide) ?_
              refine lv_goto (tgt := 137) hx hb dX8_anOperand_133 (by decide) ?_
              obtain ⟨r36, hcr36, hM⟩ := ob_use hM
              refine cl_V (As := [.int 31, .int o_L.1, .int 1]) (rest := [.ref (ad 100)]) (wM_CXLNTUOE cI ad o_X o_L o_N r36.2 o_U o_O o_E o_Q o_V o_I o_C) (.int r36.1 :: [.ref (ad 100)]) ⟨hx, hb, hml, hown, hts⟩ (c_Model_make l D cI sd ad o_C o_X o_L o_N o_U o_O o_E o_Q o_V o_I o_T 31 o_L.1 1 r36 hcr36) (cwV2 hts q1143 mvX8_make rfl rfl ⟨(Nat.le_of_ble_eq_true rfl), (Nat.le_of_ble_eq_true rfl)⟩) hK hE hA hP hD hS 0 (T := TX8) (N := 48) (ci := 8) rfl rfl [0, 8, 9, 10, 11, 12, 13, 14] rfl (by decide) (mrgE rfl rfl) rfl rfl rfl rfl rfl hl.1 (Nat.le_of_ble_eq_true rfl) dX8_anOperand_137 ⟨Nat.zero_le _, Nat.zero_le _⟩ (fun H locs hP hD hS => ?_)
              obtain ⟨r37, hcr37, hM⟩ := ob_use hM
              refine cl_V (As := [.int r36.1]) (rest := []) (wM_CXLNTUOE cI ad o_X o_L o_N r37.1 o_U r37.2.1 r37.2.2 o_Q o_V o_I o_C) [] ⟨hx, hb, hml, hown, hts⟩ (c_Model_operandCame l D cI sd ad o_C o_X o_L o_N o_U o_Q o_V o_I r36.2 o_O o_E r36.1 r37 hcr37) (cwV2 hts q1389 mvX8_operandCame rfl rfl ⟨(Nat.le_of_ble_eq_true rfl), (Nat.le_of_ble_eq_true rfl)⟩) hK hE hA hP hD hS 0 (T := TX8) (N := 48) (ci := 8) rfl rfl [0, 8, 9, 10, 11, 12, 13, 14, 16, 17, 18, 19] rfl (by decide) (mrgE rfl rfl) rfl rfl rfl rfl rfl hl.1 (Nat.le_of_ble_eq_true rfl) dX8_anOperand_140 ⟨Nat.zero_le _, Nat.zero_le _⟩ (fun H locs hP hD hS => ?_)
              refine lv_aload_n hx hb dX8_anOperand_143 rfl (lv_at hl 0 rfl) ?_
              obtain ⟨r38, hcr38, hM⟩ := ob_use hM
              refine cl_V (As := []) (rest := []) (wM_CXLNTUOE cI ad o_X r38.1 r38.2 r37.1 o_U r37.2.1 r37.2.2 o_Q o_V o_I o_C) [] ⟨hx, hb, hml, hown, hts⟩ (c_Model_step l D cI sd ad r37.1 o_U r37.2.1 r37.2.2 o_Q o_V o_I o_C o_X o_L o_N r38 hcr38) (cwV2 hts q1151 mvX8_step rfl rfl ⟨(Nat.le_of_ble_eq_true rfl), (Nat.le_of_ble_eq_true rfl)⟩) hK hE hA hP hD hS 0 (T := TX8) (N := 48) (ci := 8) rfl rfl [0, 1, 2, 3, 4, 5, 6, 7] rfl (by decide) (mrgE rfl rfl) rfl rfl rfl rfl rfl hl.1 (Nat.le_of_ble_eq_true rfl) dX8_anOperand_144 ⟨Nat.zero_le _, Nat.zero_le _⟩ (fun H locs hP hD hS => ?_)
              refine lv_goto (tgt := 214) hx hb dX8_anOperand_147 (by decide) ?_
              cases hM
              exact rt_v hx hb hr hlk hP hD hS rfl dX8_anOperand_214
      · replace hM := if_t c12 hM
        refine lv_aload_n hx hb dX8_anOperand_72 rfl (lv_at hl 0 rfl) ?_
        refine lv_aload_n hx hb dX8_anOperand_73 rfl (lv_at hl 0 rfl) ?_
        refine lv_bipush (v := 30) hx hb dX8_anOperand_74 (by decide) ?_
        refine lv_aload_n hx hb dX8_anOperand_76 rfl (lv_at hl 0 rfl) ?_
        refine va_get (D := D) (ci := 8) (v := .int o_L.1) (C := RX8) (T := TX8) (N := 48) hx hb hts layX8 hown hK hP 0 rfl rfl 6 (by decide) (hts _ (inA q984)) (fun _ h9 => h9) rfl dX8_anOperand_77 ?_
        refine lv_aload_n hx hb dX8_anOperand_80 rfl (lv_at hl 0 rfl) ?_
        refine va_get (D := D) (ci := 8) (v := .int o_L.2.2.1) (C := RX8) (T := TX8) (N := 48) hx hb hts layX8 hown hK hP 0 rfl rfl 8 (by decide) (hts _ (inA q986)) (fun _ h9 => h9) rfl dX8_anOperand_81 ?_
        obtain ⟨r39, hcr39, hM⟩ := ob_use hM
        refine cl_V (As := [.int 30, .int o_L.1, .int o_L.2.2.1]) (rest := [.ref (ad 100)]) (wM_CXLNTUOE cI ad o_X o_L o_N r39.2 o_U o_O o_E o_Q o_V o_I o_C) (.int r39.1 :: [.ref (ad 100)]) ⟨hx, hb, hml, hown, hts⟩ (c_Model_make l D cI sd ad o_C o_X o_L o_N o_U o_O o_E o_Q o_V o_I o_T 30 o_L.1 o_L.2.2.1 r39 hcr39) (cwV2 hts q1143 mvX8_make rfl rfl ⟨(Nat.le_of_ble_eq_true rfl), (Nat.le_of_ble_eq_true rfl)⟩) hK hE hA hP hD hS 0 (T := TX8) (N := 48) (ci := 8) rfl rfl [0, 8, 9, 10, 11, 12, 13, 14] rfl (by decide) (mrgE rfl rfl) rfl rfl rfl rfl rfl hl.1 (Nat.le_of_ble_eq_true rfl) dX8_anOperand_84 ⟨Nat.zero_le _, Nat.zero_le _⟩ (fun H locs hP hD hS => ?_)
        obtain ⟨r40, hcr40, hM⟩ := ob_use hM
        refine cl_V (As := [.int r39.1]) (rest := []) (wM_CXLNTUOE cI ad o_X o_L o_N r40.1 o_U r40.2.1 r40.2.2 o_Q o_V o_I o_C) [] ⟨hx, hb, hml, hown, hts⟩ (c_Model_operandCame l D cI sd ad o_C o_X o_L o_N o_U o_Q o_V o_I r39.2 o_O o_E r39.1 r40 hcr40) (cwV2 hts q1389 mvX8_operandCame rfl rfl ⟨(Nat.le_of_ble_eq_true rfl), (Nat.le_of_ble_eq_true rfl)⟩) hK hE hA hP hD hS 0 (T := TX8) (N := 48) (ci := 8) rfl rfl [0, 8, 9, 10, 11, 12, 13, 14, 16, 17, 18, 19] rfl (by decide) (mrgE rfl rfl) rfl rfl rfl rfl rfl hl.1 (Nat.le_of_ble_eq_true rfl) dX8_anOperand_87 ⟨Nat.zero_le _, Nat.zero_le _⟩ (fun H locs hP hD hS => ?_)
        refine lv_aload_n hx hb dX8_anOperand_90 rfl (lv_at hl 0 rfl) ?_
        obtain ⟨r41, hcr41, hM⟩ := ob_use hM
        refine cl_V (As := []) (rest := []) (wM_CXLNTUOE cI ad o_X r41.1 r41.2 r40.1 o_U r40.2.1 r40.2.2 o_Q o_V o_I o_C) [] ⟨hx, hb, hml, hown, hts⟩ (c_Model_step l D cI sd ad r40.1 o_U r40.2.1 r40.2.2 o_Q o_V o_I o_C o_X o_L o_N r41 hcr41) (cwV2 hts q1151 mvX8_step rfl rfl ⟨(Nat.le_of_ble_eq_true rfl), (Nat.le_of_ble_eq_true rfl)⟩) hK hE hA hP hD hS 0 (T := TX8) (N := 48) (ci := 8) rfl rfl [0, 1, 2, 3, 4, 5, 6, 7] rfl (by decide) (mrgE rfl rfl) rfl rfl rfl rfl rfl hl.1 (Nat.le_of_ble_eq_true rfl) dX8_anOperand_91 ⟨Nat.zero_le _, Nat.zero_le _⟩ (fun H locs hP hD hS => ?_)
        refine lv_goto (tgt := 214) hx hb dX8_anOperand_94 (by decide) ?_
        cases hM
        exact rt_v hx hb hr hlk hP hD hS rfl dX8_anOperand_214
    · replace hM := if_t c11 hM
      refine lv_aload_n hx hb dX8_anOperand_18 rfl (lv_at hl 0 rfl) ?_
      obtain ⟨r42, hcr42, hM⟩ := ob_use hM
      refine cl_V (As := []) (rest := []) (wM_CXLNTUOE cI ad o_X r42.2.1 o_N o_T o_U r42.2.2 o_E o_Q o_V o_I o_C) (.int r42.1 :: []) ⟨hx, hb, hml, hown, hts⟩ (c_Model_opens l D cI sd ad o_C o_X o_N o_T o_U o_E o_Q o_V o_I o_L o_O r42 hcr42) (cwV2 hts q1321 mvX8_opens rfl rfl ⟨(Nat.le_of_ble_eq_true rfl), (Nat.le_of_ble_eq_true rfl)⟩) hK hE hA hP hD hS 0 (T := TX8) (N := 48) (ci := 8) rfl rfl [0] rfl (by decide) rfl rfl rfl rfl rfl rfl hl.1 (Nat.le_of_ble_eq_true rfl) dX8_anOperand_19 ⟨Nat.zero_le _, Nat.zero_le _⟩ (fun H locs hP hD hS => ?_)
      refine lv_if_eq (tgt := 214) hx hb dX8_anOperand_22 (by decide) (fun c43 => ?_) (fun c43 => ?_)
      · replace hM := if_t c43 hM
        cases hM
        exact rt_v hx hb hr hlk hP hD hS rfl dX8_anOperand_214
      · replace hM := if_f c43 hM
        refine lv_aload_n hx hb dX8_anOperand_25 rfl (lv_at hl 0 rfl) ?_
        refine lv_aload_n hx hb dX8_anOperand_26 rfl (lv_at hl 0 rfl) ?_
        refine va_get (D := D) (ci := 8) (v := .int r42.2.1.2.1) (C := RX8) (T := TX8) (N := 48) hx hb hts layX8 hown hK hP 0 rfl rfl 7 (by decide) (hts _ (inA q985)) (fun _ h9 => h9) rfl dX8_anOperand_27 ?_
        refine lv_bipush (v := 64) hx hb dX8_anOperand_30 (by decide) ?_
        refine lv_icmp_ne (tgt := 40) hx hb dX8_anOperand_32 (by decide) (fun c44 => ?_) (fun c44 => ?_)
        · replace hM := if_f c44 hM
          refine lv_bipush (v := 21) hx hb dX8_anOperand_40 (by decide) ?_
          refine lv_aload_n hx hb dX8_anOperand_42 rfl (lv_at hl 0 rfl) ?_
          refine va_get (D := D) (ci := 8) (v := .int r42.2.1.1) (C := RX8) (T := TX8) (N := 48) hx hb hts layX8 hown hK hP 0 rfl rfl 6 (by decide) (hts _ (inA q984)) (fun _ h9 => h9) rfl dX8_anOperand_43 ?_
          obtain ⟨r45, hcr45, hM⟩ := ob_use hM
          refine cl_V (As := [.int 21, .int r42.2.1.1]) (rest := []) (wM_CXLNTUOE cI ad o_X r42.2.1 o_N o_T o_U r42.2.2 r45 o_Q o_V o_I o_C) [] ⟨hx, hb, hml, hown, hts⟩ (c_Model_waitFor l D cI sd ad o_C o_X r42.2.1 o_N o_T o_U r42.2.2 o_Q o_V o_I o_E 21 r42.2.1.1 r45 hcr45) (cwV2 hts q1381 mvX8_waitFor rfl rfl ⟨(Nat.le_of_ble_eq_true rfl), (Nat.le_of_ble_eq_true rfl)⟩) hK hE hA hP hD hS 0 (T := TX8) (N := 48) (ci := 8) rfl rfl [0, 16, 17, 18, 19] rfl (by decide) (mrgE rfl rfl) rfl rfl rfl rfl rfl hl.1 (Nat.le_of_ble_eq_true rfl) dX8_anOperand_46 ⟨Nat.zero_le _, Nat.zero_le _⟩ (fun H locs hP hD hS => ?_)
          refine lv_aload_n hx hb dX8_anOperand_49 rfl (lv_at hl 0 rfl) ?_
          refine lv_sipush (v := 135) hx hb dX8_anOperand_50 (by decide) ?_
          obtain ⟨r46, hcr46, hM⟩ := ob_use hM
          refine cl_V (As := [.int 135]) (rest := []) (wM_CXLNTUOE cI ad o_X r42.2.1 o_N o_T r46 r42.2.2 r45 o_Q o_V o_I o_C) [] ⟨hx, hb, hml, hown, hts⟩ (c_Model_push l D cI sd ad o_C o_X r42.2.1 o_N o_T r42.2.2 r45 o_Q o_V o_I o_U 135 r46 hcr46) (cwV2 hts q1147 mvX8_push rfl rfl ⟨(Nat.le_of_ble_eq_true rfl), (Nat.le_of_ble_eq_true rfl)⟩) hK hE hA hP hD hS 0 (T := TX8) (N := 48) (ci := 8) rfl rfl [0, 15] rfl (by decide) rfl rfl rfl rfl rfl rfl hl.1 (Nat.le_of_ble_eq_true rfl) dX8_anOperand_53 ⟨Nat.zero_le _, Nat.zero_le _⟩ (fun H locs hP hD hS => ?_)
          refine lv_aload_n hx hb dX8_anOperand_56 rfl (lv_at hl 0 rfl) ?_
          obtain ⟨r47, hcr47, hM⟩ := ob_use hM
          refine cl_V (As := []) (rest := []) (wM_CXLNTUOE cI ad o_X r47.1 r47.2 o_T r46 r42.2.2 r45 o_Q o_V o_I o_C) [] ⟨hx, hb, hml, hown, hts⟩ (c_Model_step l D cI sd ad o_T r46 r42.2.2 r45 o_Q o_V o_I o_C o_X r42.2.1 o_N r47 hcr47) (cwV2 hts q1151 mvX8_step rfl rfl ⟨(Nat.le_of_ble_eq_true rfl), (Nat.le_of_ble_eq_true rfl)⟩) hK hE hA hP hD hS 0 (T := TX8) (N := 48) (ci := 8) rfl rfl [0, 1, 2, 3, 4, 5, 6, 7] rfl (by decide) (mrgE rfl rfl) rfl rfl rfl rfl rfl hl.1 (Nat.le_of_ble_eq_true rfl) dX8_anOperand_57 ⟨Nat.zero_le _, Nat.zero_le _⟩ (fun H locs hP hD hS => ?_)
          refine lv_goto (tgt := 214) hx hb dX8_anOperand_60 (by decide) ?_
          cases hM
          exact rt_v hx hb hr hlk hP hD hS rfl dX8_anOperand_214
        · replace hM := if_t c44 hM
          refine lv_bipush (v := 20) hx hb dX8_anOperand_35 (by decide) ?_
          refine lv_goto (tgt := 42) hx hb dX8_anOperand_37 (by decide) ?_
          refine lv_aload_n hx hb dX8_anOperand_42 rfl (lv_at hl 0 rfl) ?_
          refine va_get (D := D) (ci := 8) (v := .int r42.2.1.1) (C := RX8) (T := TX8) (N := 48) hx hb hts layX8 hown hK hP 0 rfl rfl 6 (by decide) (hts _ (inA q984)) (fun _ h9 => h9) rfl dX8_anOperand_43 ?_
          obtain ⟨r48, hcr48, hM⟩ := ob_use hM
          refine cl_V (As := [.int 20, .int r42.2.1.1]) (rest := []) (wM_CXLNTUOE cI ad o_X r42.2.1 o_N o_T o_U r42.2.2 r48 o_Q o_V o_I o_C) [] ⟨hx, hb, hml, hown, hts⟩ (c_Model_waitFor l D cI sd ad o_C o_X r42.2.1 o_N o_T o_U r42.2.2 o_Q o_V o_I o_E 20 r42.2.1.1 r48 hcr48) (cwV2 hts q1381 mvX8_waitFor rfl rfl ⟨(Nat.le_of_ble_eq_true rfl), (Nat.le_of_ble_eq_true rfl)⟩) hK hE hA hP hD hS 0 (T := TX8) (N := 48) (ci := 8) rfl rfl [0, 16, 17, 18, 19] rfl (by decide) (mrgE rfl rfl) rfl rfl rfl rfl rfl hl.1 (Nat.le_of_ble_eq_true rfl) dX8_anOperand_46 ⟨Nat.zero_le _, Nat.zero_le _⟩ (fun H locs hP hD hS => ?_)
          refine lv_aload_n hx hb dX8_anOperand_49 rfl (lv_at hl 0 rfl) ?_
          refine lv_sipush (v := 135) hx hb dX8_anOperand_50 (by decide) ?_
          obtain ⟨r49, hcr49, hM⟩ := ob_use hM
          refine cl_V (As := [.int 135]) (rest := []) (wM_CXLNTUOE cI ad o_X r42.2.1 o_N o_T r49 r42.2.2 r48 o_Q o_V o_I o_C) [] ⟨hx, hb, hml, hown, hts⟩ (c_Model_push l D cI sd ad o_C o_X r42.2.1 o_N o_T r42.2.2 r48 o_Q o_V o_I o_U 135 r49 hcr49) (cwV2 hts q1147 mvX8_push rfl rfl ⟨(Nat.le_of_ble_eq_true rfl), (Nat.le_of_ble_eq_true rfl)⟩) hK hE hA hP hD hS 0 (T := TX8) (N := 48) (ci := 8) rfl rfl [0, 15] rfl (by decide) rfl rfl rfl rfl rfl rfl hl.1 (Nat.le_of_ble_eq_true rfl) dX8_anOperand_53 ⟨Nat.zero_le _, Nat.zero_le _⟩ (fun H locs hP hD hS => ?_)
          refine lv_aload_n hx hb dX8_anOperand_56 rfl (lv_at hl 0 rfl) ?_
          obtain ⟨r50, hcr50, hM⟩ := ob_use hM
          refine cl_V (As := []) (rest := []) (wM_CXLNTUOE cI ad o_X r50.1 r50.2 o_T r49 r42.2.2 r48 o_Q o_V o_I o_C) [] ⟨hx, hb, hml, hown, hts⟩ (c_Model_step l D cI sd ad o_T r49 r42.2.2 r48 o_Q o_V o_I o_C o_X r42.2.1 o_N r50 hcr50) (cwV2 hts q1151 mvX8_step rfl rfl ⟨(Nat.le_of_ble_eq_true rfl), (Nat.le_of_ble_eq_true rfl)⟩) hK hE hA hP hD hS 0 (T := TX8) (N := 48) (ci := 8) rfl rfl [0, 1, 2, 3, 4, 5, 6, 7] rfl (by decide) (mrgE rfl rfl) rfl rfl rfl rfl rfl hl.1 (Nat.le_of_ble_eq_true rfl) dX8_anOperand_57 ⟨Nat.zero_le _, Nat.zero_le _⟩ (fun H locs hP hD hS => ?_)
          refine lv_goto (tgt := 214) hx hb dX8_anOperand_60 (by decide) ?_
          cases hM
          exact rt_v hx hb hr hlk hP hD hS rfl dX8_anOperand_214

set_option maxHeartbeats 4000000 in
set_option maxRecDepth 100000 in
theorem c_Model_groupEnd (l : Launch) (D : va_G) (cI : ClassId) (sd : Nat → Nat) (ad : Nat → Nat) (o_U : S_MU) (o_Q : S_MQ) (o_V : S_MV) (o_I : S_MI) (o_C : S_MC) (o_X : S_MX) (o_L : S_ML) (o_N : S_MN) (o_T : S_MT) (o_O : S_MO) (o_E : S_ME) (res : S_ML × S_MN × S_MT × S_MO × S_ME) (hM : f_Model_groupEnd o_C o_X o_L o_N o_T o_O o_E = some res) : Ctr l D cI sd yX8_groupEnd (wsM yX8_groupEnd cX8_groupEnd 1 (Option.none : Option Jvm.ClassFile.FieldType)) { frames := 6, cells := 0, slots := 0, locals := 133 } [.ref (ad 100)] (wM_CXLNTOE cI ad o_X o_L o_N o_T o_U o_O o_E o_Q o_V o_I o_C) (wM_CXLNTOE cI ad o_X res.1 res.2.1 res.2.2.1 o_U res.2.2.2.1 res.2.2.2.2 o_Q o_V o_I o_C) none := by
  refine Ctr.of (cc := cX8_groupEnd) (maxL := 1) (own := RX8) (by decide +kernel) rfl rfl (Nat.le_of_ble_eq_true rfl) ?_
  intro p e s m below meth c A ls hx hb hr hml hown hts hlk hK hE hA hP hD hS hl
  have hl : lv_has ls 1 [(0, .ref (ad 100))] := hl
  unfold f_Model_groupEnd at hM
  refine lv_aload_n hx hb dX8_groupEnd_0 rfl (lv_at hl 0 rfl) ?_
  refine lv_dup hx hb dX8_groupEnd_1 rfl ?_
  refine va_get (D := D) (ci := 8) (v := .int o_O.1) (C := RX8) (T := TX8) (N := 48) hx hb hts layX8 hown hK hP 0 rfl rfl 27 (by decide) (hts _ (inA q1005)) (fun _ h9 => h9) rfl dX8_groupEnd_2 ?_
  refine lv_iconst (v := 1) hx hb dX8_groupEnd_5 (by decide) ?_
  refine lv_isub hx hb dX8_groupEnd_6 ?_
  refine va_put (D := D) (ci := 8) (v := .int (o_O.1 - 1)) (ty := .int) (C := RX8) (T := TX8) (N := 48) hx hb hts layX8 tyX8 tyX8_ok nmX8 hown hK hP hD hS 0 rfl rfl 27 (by decide) (hts _ (inA q1005)) (fun _ h9 => h9) rfl (by decide +kernel) rfl rfl (Nat.le_of_ble_eq_true rfl) dX8_groupEnd_7 (fun H locs hP hD hS => ?_)
  have hP : va_P D vwCl (wM_CXLNTOE cI ad o_X o_L o_N o_T o_U (o_O.1 - 1, o_O.2) o_E o_Q o_V o_I o_C) H := hP
  have hD : va_D A (wM_CXLNTOE cI ad o_X o_L o_N o_T o_U (o_O.1 - 1, o_O.2) o_E o_Q o_V o_I o_C) := hD
  refine lv_aload_n hx hb dX8_groupEnd_10 rfl (lv_at hl 0 rfl) ?_
  refine lv_aload_n hx hb dX8_groupEnd_11 rfl (lv_at hl 0 rfl) ?_
  obtain ⟨r1, hcr1, hM⟩ := ob_use hM
  refine cl_V (As := []) (rest := [.ref (ad 100)]) (wM_CXLNTOE cI ad o_X o_L o_N o_T o_U (o_O.1 - 1, o_O.2) r1.2 o_Q o_V o_I o_C) (.int r1.1 :: [.ref (ad 100)]) ⟨hx, hb, hml, hown, hts⟩ (c_Model_takeOperand l D cI sd ad o_C o_X o_L o_N o_T o_U (o_O.1 - 1, o_O.2) o_Q o_V o_I o_E r1 hcr1) (cwV2 hts q1401 mvX8_takeOperand rfl rfl ⟨(Nat.le_of_ble_eq_true rfl), (Nat.le_of_ble_eq_true rfl)⟩) hK hE hA hP hD hS 0 (T := TX8) (N := 48) (ci := 8) rfl rfl [0, 15, 16, 17, 18] rfl (by decide) (mrgE rfl rfl) rfl rfl rfl rfl rfl hl.1 (Nat.le_of_ble_eq_true rfl) dX8_groupEnd_12 ⟨Nat.zero_le _, Nat.zero_le _⟩ (fun H locs hP hD hS => ?_)
  obtain ⟨r2, hcr2, hM⟩ := ob_use hM
  refine cl_V (As := [.int r1.1]) (rest := []) (wM_CXLNTOE cI ad o_X o_L o_N r2.1 o_U r2.2.1 r2.2.2 o_Q o_V o_I o_C) [] ⟨hx, hb, hml, hown, hts⟩ (c_Model_operandCame l D cI sd ad o_C o_X o_L o_N o_U o_Q o_V o_I o_T (o_O.1 - 1, o_O.2) r1.2 r1.1 r2 hcr2) (cwV2 hts q1389 mvX8_operandCame rfl rfl ⟨(Nat.le_of_ble_eq_true rfl), (Nat.le_of_ble_eq_true rfl)⟩) hK hE hA hP hD hS 0 (T := TX8) (N := 48) (ci := 8) rfl rfl [0, 8, 9, 10, 11, 12, 13, 14, 15, 16, 17, 18] rfl (by decide) (mrgE rfl rfl) rfl rfl rfl rfl rfl hl.1 (Nat.le_of_ble_eq_true rfl) dX8_groupEnd_15 ⟨Nat.zero_le _, Nat.zero_le _⟩ (fun H locs hP hD hS => ?_)
  refine lv_aload_n hx hb dX8_groupEnd_18 rfl (lv_at hl 0 rfl) ?_
  refine lv_bipush (v := 56) hx hb dX8_groupEnd_19 (by decide) ?_
  obtain ⟨r3, hcr3, hM⟩ := ob_use hM
  refine cl_V (As := [.int 56]) (rest := []) (wM_CXLNTOE cI ad o_X r3.1 r3.2 r2.1 o_U r2.2.1 r2.2.2 o_Q o_V o_I o_C) [] ⟨hx, hb, hml, hown, hts⟩ (c_Model_pass l D cI sd ad r2.1 o_U r2.2.1 r2.2.2 o_Q o_V o_I o_C o_X o_L o_N 56 r3 hcr3) (cwV2 hts q1229 mvX8_pass rfl rfl ⟨(Nat.le_of_ble_eq_true rfl), (Nat.le_of_ble_eq_true rfl)⟩) hK hE hA hP hD hS 0 (T := TX8) (N := 48) (ci := 8) rfl rfl [0, 1, 2, 3, 4, 5, 6, 7] rfl (by decide) (mrgE rfl rfl) rfl rfl rfl rfl rfl hl.1 (Nat.le_of_ble_eq_true rfl) dX8_groupEnd_21 ⟨Nat.zero_le _, Nat.zero_le _⟩ (fun H locs hP hD hS => ?_)
  cases hM
  exact rt_v hx hb hr hlk hP hD hS rfl dX8_groupEnd_24

set_option maxHeartbeats 4000000 in
set_option maxRecDepth 100000 in
theorem c_Model_start (l : Launch) (D : va_G) (cI : ClassId) (sd : Nat → Nat) (ad : Nat → Nat) (o_C : S_MC) (o_X : S_MX) (o_L : S_ML) (o_N : S_MN) (o_U : S_MU) (o_Q : S_MQ) (o_V : S_MV) (o_I : S_MI) (o_T : S_MT) (o_O : S_MO) (o_E : S_ME) (a1 : Int32) (res : S_MT × S_ME) (hM : f_Model_start o_T o_O o_E a1 = some res) : Ctr l D cI sd yX8_start (wsM yX8_start cX8_start 2 (Option.none : Option Jvm.ClassFile.FieldType)) { frames := 1, cells := 0, slots := 0, locals := 23 } [.ref (ad 100), .int a1] (wM_TOE cI ad o_X o_L o_N o_T o_U o_O o_E o_Q o_V o_I) (wM_TOE cI ad o_X o_L o_N res.1 o_U o_O res.2 o_Q o_V o_I) none := by
  refine Ctr.of (cc := cX8_start) (maxL := 2) (own := RX8) (by decide +kernel) rfl rfl (Nat.le_of_ble_eq_true rfl) ?_
  intro p e s m below meth c A ls hx hb hr hml hown hts hlk hK hE hA hP hD hS hl
  have hl : lv_has ls 2 [(0, .ref (ad 100)), (1, .int a1)] := hl
  unfold f_Model_start at hM
  refine lv_aload_n hx hb dX8_start_0 rfl (lv_at hl 0 rfl) ?_
  refine va_get (D := D) (ci := 8) (v := .ref (ad 119)) (C := RX8) (T := TX8) (N := 48) hx hb hts layX8 hown hK hP 0 rfl rfl 39 (by decide) (hts _ (inA q1017)) (fun _ h9 => h9) rfl dX8_start_1 ?_
  refine lv_aload_n hx hb dX8_start_4 rfl (lv_at hl 0 rfl) ?_
  refine va_get (D := D) (ci := 8) (v := .int o_E.2.2.1) (C := RX8) (T := TX8) (N := 48) hx hb hts layX8 hown hK hP 0 rfl rfl 38 (by decide) (hts _ (inA q1016)) (fun _ h9 => h9) rfl dX8_start_5 ?_
  refine lv_aload_n hx hb dX8_start_8 rfl (lv_at hl 0 rfl) ?_
  refine lv_iload_n hx hb dX8_start_9 rfl (lv_at hl 1 rfl) ?_
  refine lv_aload_n hx hb dX8_start_10 rfl (lv_at hl 0 rfl) ?_
  refine va_get (D := D) (ci := 8) (v := .int o_O.2.2.2.1) (C := RX8) (T := TX8) (N := 48) hx hb hts layX8 hown hK hP 0 rfl rfl 30 (by decide) (hts _ (inA q1008)) (fun _ h9 => h9) rfl dX8_start_11 ?_
  refine lv_aload_n hx hb dX8_start_14 rfl (lv_at hl 0 rfl) ?_
  refine va_get (D := D) (ci := 8) (v := .int o_O.2.2.2.2.1) (C := RX8) (T := TX8) (N := 48) hx hb hts layX8 hown hK hP 0 rfl rfl 31 (by decide) (hts _ (inA q1009)) (fun _ h9 => h9) rfl dX8_start_15 ?_
  obtain ⟨r1, hcr1, hM⟩ := ob_use hM
  refine cl_V (As := [.int a1, .int o_O.2.2.2.1, .int o_O.2.2.2.2.1]) (rest := [.int o_E.2.2.1, .ref (ad 119)]) (wM_TOE cI ad o_X o_L o_N r1.2 o_U o_O o_E o_Q o_V o_I) (.int r1.1 :: [.int o_E.2.2.1, .ref (ad 119)]) ⟨hx, hb, hml, hown, hts⟩ (c_Model_make l D cI sd ad o_C o_X o_L o_N o_U o_O o_E o_Q o_V o_I o_T a1 o_O.2.2.2.1 o_O.2.2.2.2.1 r1 hcr1) (cwV2 hts q1143 mvX8_make rfl rfl ⟨(Nat.le_of_ble_eq_true rfl), (Nat.le_of_ble_eq_true rfl)⟩) hK hE hA hP hD hS 0 (T := TX8) (N := 48) (ci := 8) rfl rfl [0, 1, 2, 3, 4, 5, 6, 7] rfl (by decide) (mrgE rfl rfl) rfl rfl rfl rfl rfl hl.1 (Nat.le_of_ble_eq_true rfl) dX8_start_18 ⟨Nat.zero_le _, Nat.zero_le _⟩ (fun H locs hP hD hS => ?_)
  obtain ⟨b2, hM⟩ := gd_use hM
  refine va_iast hx hb hK hP hD hS 11 0 rfl rfl b2 dX8_start_21 (fun H locs hP hD hS => ?_)
  have hP : va_P D vwCl (wM_TOE cI ad o_X o_L o_N r1.2 o_U o_O (o_E.1, o_E.2.1, o_E.2.2.1, o_E.2.2.2.1, o_E.2.2.2.2.1, o_E.2.2.2.2.2.1, upd o_E.2.2.2.2.2.2 o_E.2.2.1.toNatClampNeg r1.1) o_Q o_V o_I) H := hP
  have hD : va_D A (wM_TOE cI ad o_X o_L o_N r1.2 o_U o_O (o_E.1, o_E.2.1, o_E.2.2.1, o_E.2.2.2.1, o_E.2.2.2.2.1, o_E.2.2.2.2.2.1, upd o_E.2.2.2.2.2.2 o_E.2.2.1.toNatClampNeg r1.1) o_Q o_V o_I) := hD
  refine lv_aload_n hx hb dX8_start_22 rfl (lv_at hl 0 rfl) ?_
  refine lv_dup hx hb dX8_start_23 rfl ?_
  refine va_get (D := D) (ci := 8) (v := .int o_E.2.2.1) (C := RX8) (T := TX8) (N := 48) hx hb hts layX8 hown hK hP 0 rfl rfl 38 (by decide) (hts _ (inA q1016)) (fun _ h9 => h9) rfl dX8_start_24 ?_
  refine lv_iconst (v := 1) hx hb dX8_start_27 (by decide) ?_
  refine lv_iadd hx hb dX8_start_28 ?_
  refine va_put (D := D) (ci := 8) (v := .int (o_E.2.2.1 + 1)) (ty := .int) (C := RX8) (T := TX8) (N := 48) hx hb hts layX8 tyX8 tyX8_ok nmX8 hown hK hP hD hS 0 rfl rfl 38 (by decide) (hts _ (inA q1016)) (fun _ h9 => h9) rfl (by decide +kernel) rfl rfl (Nat.le_of_ble_eq_true rfl) dX8_start_29 (fun H locs hP hD hS => ?_)
  have hP : va_P D vwCl (wM_TOE cI ad o_X o_L o_N r1.2 o_U o_O (o_E.1, o_E.2.1, o_E.2.2.1 + 1, o_E.2.2.2.1, o_E.2.2.2.2.1, o_E.2.2.2.2.2.1, upd o_E.2.2.2.2.2.2 o_E.2.2.1.toNatClampNeg r1.1) o_Q o_V o_I) H := hP
  have hD : va_D A (wM_TOE cI ad o_X o_L o_N r1.2 o_U o_O (o_E.1, o_E.2.1, o_E.2.2.1 + 1, o_E.2.2.2.1, o_E.2.2.2.2.1, o_E.2.2.2.2.2.1, upd o_E.2.2.2.2.2.2 o_E.2.2.1.toNatClampNeg r1.1) o_Q o_V o_I) := hD
  cases hM
  exact rt_v hx hb hr hlk hP hD hS rfl dX8_start_32

set_option maxHeartbeats 4000000 in
set_option maxRecDepth 100000 in
theorem c_Model_behindOperand (l : Launch) (D : va_G) (cI : ClassId) (sd : Nat → Nat) (ad : Nat → Nat) (o_Q : S_MQ) (o_V : S_MV) (o_I : S_MI) (o_C : S_MC) (o_X : S_MX) (o_L : S_ML) (o_N : S_MN) (o_T : S_MT) (o_U : S_MU) (o_O : S_MO) (o_E : S_ME) (res : S_ML × S_MN × S_MT × S_MU × S_MO × S_ME) (hM : f_Model_behindOperand o_C o_X o_L o_N o_T o_U o_O o_E = some res) : Ctr l D cI sd yX8_behindOperand (wsM yX8_behindOperand cX8_behindOperand 1 (Option.none : Option Jvm.ClassFile.FieldType)) { frames := 5, cells := 0, slots := 0, locals := 112 } [.ref (ad 100)] (wM_CXLNTUOE cI ad o_X o_L o_N o_T o_U o_O o_E o_Q o_V o_I o_C) (wM_CXLNTUOE cI ad o_X res.1 res.2.1 res.2.2.1 res.2.2.2.1 res.2.2.2.2.1 res.2.2.2.2.2 o_Q o_V o_I o_C) none := by
  refine Ctr.of (cc := cX8_behindOperand) (maxL := 1) (own := RX8) (by decide +kernel) rfl rfl (Nat.le_of_ble_eq_true rfl) ?_
  intro p e s m below meth c A ls hx hb hr hml hown hts hlk hK hE hA hP hD hS hl
  have hl : lv_has ls 1 [(0, .ref (ad 100))] := hl
  unfold f_Model_behindOperand at hM
  refine lv_aload_n hx hb dX8_behindOperand_0 rfl (lv_at hl 0 rfl) ?_
  refine va_get (D := D) (ci := 8) (v := .int o_L.2.1) (C := RX8) (T := TX8) (N := 48) hx hb hts layX8 hown hK hP 0 rfl rfl 7 (by decide) (hts _ (inA q985)) (fun _ h9 => h9) rfl dX8_behindOperand_1 ?_
  refine lv_bipush (v := 57) hx hb dX8_behindOperand_4 (by decide) ?_
  refine lv_icmp_ne (tgt := 39) hx hb dX8_behindOperand_6 (by decide) (fun c1 => ?_) (fun c1 => ?_)
  · replace hM := if_f c1 hM
    refine lv_aload_n hx hb dX8_behindOperand_39 rfl (lv_at hl 0 rfl) ?_
    refine va_get (D := D) (ci := 8) (v := .int o_L.2.1) (C := RX8) (T := TX8) (N := 48) hx hb hts layX8 hown hK hP 0 rfl rfl 7 (by decide) (hts _ (inA q985)) (fun _ h9 => h9) rfl dX8_behindOperand_40 ?_
    refine lv_bipush (v := 62) hx hb dX8_behindOperand_43 (by decide) ?_
    refine lv_icmp_ne (tgt := 68) hx hb dX8_behindOperand_45 (by decide) (fun c2 => ?_) (fun c2 => ?_)
    · replace hM := if_f c2 hM
      refine lv_aload_n hx hb dX8_behindOperand_68 rfl (lv_at hl 0 rfl) ?_
      refine va_get (D := D) (ci := 8) (v := .int o_L.2.1) (C := RX8) (T := TX8) (N := 48) hx hb hts layX8 hown hK hP 0 rfl rfl 7 (by decide) (hts _ (inA q985)) (fun _ h9 => h9) rfl dX8_behindOperand_69 ?_
      refine lv_bipush (v := 55) hx hb dX8_behindOperand_72 (by decide) ?_
      refine lv_icmp_ne (tgt := 107) hx hb dX8_behindOperand_74 (by decide) (fun c3 => ?_) (fun c3 => ?_)
      · replace hM := if_f c3 hM
        refine lv_aload_n hx hb dX8_behindOperand_107 rfl (lv_at hl 0 rfl) ?_
        refine lv_aload_n hx hb dX8_behindOperand_108 rfl (lv_at hl 0 rfl) ?_
        refine lv_bipush (v := 6) hx hb dX8_behindOperand_109 (by decide) ?_
        refine lv_aload_n hx hb dX8_behindOperand_111 rfl (lv_at hl 0 rfl) ?_
        refine va_get (D := D) (ci := 8) (v := .int o_O.2.2.2.1) (C := RX8) (T := TX8) (N := 48) hx hb hts layX8 hown hK hP 0 rfl rfl 30 (by decide) (hts _ (inA q1008)) (fun _ h9 => h9) rfl dX8_behindOperand_112 ?_
        refine lv_aload_n hx hb dX8_behindOperand_115 rfl (lv_at hl 0 rfl) ?_
        refine va_get (D := D) (ci := 8) (v := .int o_O.2.2.2.2.1) (C := RX8) (T := TX8) (N := 48) hx hb hts layX8 hown hK hP 0 rfl rfl 31 (by decide) (hts _ (inA q1009)) (fun _ h9 => h9) rfl dX8_behindOperand_116 ?_
        obtain ⟨r4, hcr4, hM⟩ := ob_use hM
        refine cl_V (As := [.int 6, .int o_O.2.2.2.1, .int o_O.2.2.2.2.1]) (rest := [.ref (ad 100)]) (wM_CXLNTUOE cI ad o_X o_L o_N r4.2 o_U o_O o_E o_Q o_V o_I o_C) (.int r4.1 :: [.ref (ad 100)]) ⟨hx, hb, hml, hown, hts⟩ (c_Model_make l D cI sd ad o_C o_X o_L o_N o_U o_O o_E o_Q o_V o_I o_T 6 o_O.2.2.2.1 o_O.2.2.2.2.1 r4 hcr4) (cwV2 hts q1143 mvX8_make rfl rfl ⟨(Nat.le_of_ble_eq_true rfl), (Nat.le_of_ble_eq_true rfl)⟩) hK hE hA hP hD hS 0 (T := TX8) (N := 48) (ci := 8) rfl rfl [0, 8, 9, 10, 11, 12, 13, 14] rfl (by decide) (mrgE rfl rfl) rfl rfl rfl rfl rfl hl.1 (Nat.le_of_ble_eq_true rfl) dX8_behindOperand_119 ⟨Nat.zero_le _, Nat.zero_le _⟩ (fun H locs hP hD hS => ?_)
        obtain ⟨r5, hcr5, hM⟩ := ob_use hM
        refine cl_V (As := [.int r4.1]) (rest := []) (wM_CXLNTUOE cI ad o_X o_L o_N r5.1 o_U r5.2.1 r5.2.2 o_Q o_V o_I o_C) [] ⟨hx, hb, hml, hown, hts⟩ (c_Model_operandCame l D cI sd ad o_C o_X o_L o_N o_U o_Q o_V o_I r4.2 o_O o_E r4.1 r5 hcr5) (cwV2 hts q1389 mvX8_operandCame rfl rfl ⟨(Nat.le_of_ble_eq_true rfl), (Nat.le_of_ble_eq_true rfl)⟩) hK hE hA hP hD hS 0 (T := TX8) (N := 48) (ci := 8) rfl rfl [0, 8, 9, 10, 11, 12, 13, 14, 16, 17, 18, 19] rfl (by decide) (mrgE rfl rfl) rfl rfl rfl rfl rfl hl.1 (Nat.le_of_ble_eq_true rfl) dX8_behindOperand_122 ⟨Nat.zero_le _, Nat.zero_le _⟩ (fun H locs hP hD hS => ?_)
        cases hM
        exact rt_v hx hb hr hlk hP hD hS rfl dX8_behindOperand_125
      · replace hM := if_t c3 hM
        refine lv_aload_n hx hb dX8_behindOperand_77 rfl (lv_at hl 0 rfl) ?_
        obtain ⟨r6, hcr6, hM⟩ := ob_use hM
        refine cl_V (As := []) (rest := []) (wM_CXLNTUOE cI ad o_X r6.2.1 o_N o_T o_U r6.2.2 o_E o_Q o_V o_I o_C) (.int r6.1 :: []) ⟨hx, hb, hml, hown, hts⟩ (c_Model_opens l D cI sd ad o_C o_X o_N o_T o_U o_E o_Q o_V o_I o_L o_O r6 hcr6) (cwV2 hts q1321 mvX8_opens rfl rfl ⟨(Nat.le_of_ble_eq_true rfl), (Nat.le_of_ble_eq_true rfl)⟩) hK hE hA hP hD hS 0 (T := TX8) (N := 48) (ci := 8) rfl rfl [0] rfl (by decide) rfl rfl rfl rfl rfl rfl hl.1 (Nat.le_of_ble_eq_true rfl) dX8_behindOperand_78 ⟨Nat.zero_le _, Nat.zero_le _⟩ (fun H locs hP hD hS => ?_)
        refine lv_if_eq (tgt := 125) hx hb dX8_behindOperand_81 (by decide) (fun c7 => ?_) (fun c7 => ?_)
        · replace hM := if_t c7 hM
          cases hM
          exact rt_v hx hb hr hlk hP hD hS rfl dX8_behindOperand_125
        · replace hM := if_f c7 hM
          refine lv_aload_n hx hb dX8_behindOperand_84 rfl (lv_at hl 0 rfl) ?_
          refine lv_bipush (v := 34) hx hb dX8_behindOperand_85 (by decide) ?_
          obtain ⟨r8, hcr8, hM⟩ := ob_use hM
          refine cl_V (As := [.int 34]) (rest := []) (wM_CXLNTUOE cI ad o_X r6.2.1 o_N r8.1 o_U r6.2.2 r8.2 o_Q o_V o_I o_C) [] ⟨hx, hb, hml, hown, hts⟩ (c_Model_start l D cI sd ad o_C o_X r6.2.1 o_N o_U o_Q o_V o_I o_T r6.2.2 o_E 34 r8 hcr8) (cwV2 hts q1424 mvX8_start rfl rfl ⟨(Nat.le_of_ble_eq_true rfl), (Nat.le_of_ble_eq_true rfl)⟩) hK hE hA hP hD hS 0 (T := TX8) (N := 48) (ci := 8) rfl rfl [0, 8, 9, 10, 11, 12, 13, 14, 16, 17, 18, 19] rfl (by decide) (mrgE rfl rfl) rfl rfl rfl rfl rfl hl.1 (Nat.le_of_ble_eq_true rfl) dX8_behindOperand_87 ⟨Nat.zero_le _, Nat.zero_le _⟩ (fun H locs hP hD hS => ?_)
          refine lv_aload_n hx hb dX8_behindOperand_90 rfl (lv_at hl 0 rfl) ?_
          refine lv_sipush (v := 143) hx hb dX8_behindOperand_91 (by decide) ?_
          refine lv_sipush (v := 142) hx hb dX8_behindOperand_94 (by decide) ?_
          obtain ⟨r9, hcr9, hM⟩ := ob_use hM
          refine cl_V (As := [.int 143, .int 142]) (rest := []) (wM_CXLNTUOE cI ad o_X r6.2.1 o_N r8.1 r9 r6.2.2 r8.2 o_Q o_V o_I o_C) [] ⟨hx, hb, hml, hown, hts⟩ (c_Model_push2 l D cI sd ad o_C o_X r6.2.1 o_N r8.1 r6.2.2 r8.2 o_Q o_V o_I o_U 143 142 r9 hcr9) (cwV2 hts q1257 mvX8_push2 rfl rfl ⟨(Nat.le_of_ble_eq_true rfl), (Nat.le_of_ble_eq_true rfl)⟩) hK hE hA hP hD hS 0 (T := TX8) (N := 48) (ci := 8) rfl rfl [0, 15] rfl (by decide) rfl rfl rfl rfl rfl rfl hl.1 (Nat.le_of_ble_eq_true rfl) dX8_behindOperand_97 ⟨Nat.zero_le _, Nat.zero_le _⟩ (fun H locs hP hD hS => ?_)
          refine lv_aload_n hx hb dX8_behindOperand_100 rfl (lv_at hl 0 rfl) ?_
          obtain ⟨r10, hcr10, hM⟩ := ob_use hM
          refine cl_V (As := []) (rest := []) (wM_CXLNTUOE cI ad o_X r10.1 r10.2 r8.1 r9 r6.2.2 r8.2 o_Q o_V o_I o_C) [] ⟨hx, hb, hml, hown, hts⟩ (c_Model_step l D cI sd ad r8.1 r9 r6.2.2 r8.2 o_Q o_V o_I o_C o_X r6.2.1 o_N r10 hcr10) (cwV2 hts q1151 mvX8_step rfl rfl ⟨(Nat.le_of_ble_eq_true rfl), (Nat.le_of_ble_eq_true rfl)⟩) hK hE hA hP hD hS 0 (T := TX8) (N := 48) (ci := 8) rfl rfl [0, 1, 2, 3, 4, 5, 6, 7] rfl (by decide) (mrgE rfl rfl) rfl rfl rfl rfl rfl hl.1 (Nat.le_of_ble_eq_true rfl) dX8_behindOperand_101 ⟨Nat.zero_le _, Nat.zero_le _⟩ (fun H locs hP hD hS => ?_)
          refine lv_goto (tgt := 125) hx hb dX8_behindOperand_104 (by decide) ?_
          cases hM
          exact rt_v hx hb hr hlk hP hD hS rfl dX8_behindOperand_125
    · replace hM := if_t c2 hM
      refine lv_aload_n hx hb dX8_behindOperand_48 rfl (lv_at hl 0 rfl) ?_
      refine lv_bipush (v := 33) hx hb dX8_behindOperand_49 (by decide) ?_
      obtain ⟨r11, hcr11, hM⟩ := ob_use hM
      refine cl_V (As := [.int 33]) (rest := []) (wM_CXLNTUOE cI ad o_X o_L o_N r11.1 o_U o_O r11.2 o_Q o_V o_I o_C) [] ⟨hx, hb, hml, hown, hts⟩ (c_Model_start l D cI sd ad o_C o_X o_L o_N o_U o_Q o_V o_I o_T o_O o_E 33 r11 hcr11) (cwV2 hts q1424 mvX8_start rfl rfl ⟨(Nat.le_of_ble_eq_true rfl), (Nat.le_of_ble_eq_true rfl)⟩) hK hE hA hP hD hS 0 (T := TX8) (N := 48) (ci := 8) rfl rfl [0, 8, 9, 10, 11, 12, 13, 14, 16, 17, 18, 19] rfl (by decide) (mrgE rfl rfl) rfl rfl rfl rfl rfl hl.1 (Nat.le_of_ble_eq_true rfl) dX8_behindOperand_51 ⟨Nat.zero_le _, Nat.zero_le _⟩ (fun H locs hP hD hS => ?_)
      refine lv_aload_n hx hb dX8_behindOperand_54 rfl (lv_at hl 0 rfl) ?_
      refine lv_sipush (v := 141) hx hb dX8_behindOperand_55 (by decide) ?_
      obtain ⟨r12, hcr12, hM⟩ := ob_use hM
      refine cl_V (As := [.int 141]) (rest := []) (wM_CXLNTUOE cI ad o_X o_L o_N r11.1 r12 o_O r11.2 o_Q o_V o_I o_C) [] ⟨hx, hb, hml, hown, hts⟩ (c_Model_push l D cI sd ad o_C o_X o_L o_N r11.1 o_O r11.2 o_Q o_V o_I o_U 141 r12 hcr12) (cwV2 hts q1147 mvX8_push rfl rfl ⟨(Nat.le_of_ble_eq_true rfl), (Nat.le_of_ble_eq_true rfl)⟩) hK hE hA hP hD hS 0 (T := TX8) (N := 48) (ci := 8) rfl rfl [0, 15] rfl (by decide) rfl rfl rfl rfl rfl rfl hl.1 (Nat.le_of_ble_eq_true rfl) dX8_behindOperand_58 ⟨Nat.zero_le _, Nat.zero_le _⟩ (fun H locs hP hD hS => ?_)
      refine lv_aload_n hx hb dX8_behindOperand_61 rfl (lv_at hl 0 rfl) ?_
      obtain ⟨r13, hcr13, hM⟩ := ob_use hM
      refine cl_V (As := []) (rest := []) (wM_CXLNTUOE cI ad o_X r13.1 r13.2 r11.1 r12 o_O r11.2 o_Q o_V o_I o_C) [] ⟨hx, hb, hml, hown, hts⟩ (c_Model_step l D cI sd ad r11.1 r12 o_O r11.2 o_Q o_V o_I o_C o_X o_L o_N r13 hcr13) (cwV2 hts q1151 mvX8_step rfl rfl ⟨(Nat.le_of_ble_eq_true rfl), (Nat.le_of_ble_eq_true rfl)⟩) hK hE hA hP hD hS 0 (T := TX8) (N := 48) (ci := 8) rfl rfl [0, 1, 2, 3, 4, 5, 6, 7] rfl (by decide) (mrgE rfl rfl) rfl rfl rfl rfl rfl hl.1 (Nat.le_of_ble_eq_true rfl) dX8_behindOperand_62 ⟨Nat.zero_le _, Nat.zero_le _⟩ (fun H locs hP hD hS => ?_)
      refine lv_goto (tgt := 125) hx hb dX8_behindOperand_65 (by decide) ?_
      cases hM
      exact rt_v hx hb hr hlk hP hD hS rfl dX8_behindOperand_125
  · replace hM := if_t c1 hM
    refine lv_aload_n hx hb dX8_behindOperand_9 rfl (lv_at hl 0 rfl) ?_
    obtain ⟨r14, hcr14, hM⟩ := ob_use hM
    refine cl_V (As := []) (rest := []) (wM_CXLNTUOE cI ad o_X r14.2.1 o_N o_T o_U r14.2.2 o_E o_Q o_V o_I o_C) (.int r14.1 :: []) ⟨hx, hb, hml, hown, hts⟩ (c_Model_opens l D cI sd ad o_C o_X o_N o_T o_U o_E o_Q o_V o_I o_L o_O r14 hcr14) (cwV2 hts q1321 mvX8_opens rfl rfl ⟨(Nat.le_of_ble_eq_true rfl), (Nat.le_of_ble_eq_true rfl)⟩) hK hE hA hP hD hS 0 (T := TX8) (N := 48) (ci := 8) rfl rfl [0] rfl (by decide) rfl rfl rfl rfl rfl rfl hl.1 (Nat.le_of_ble_eq_true rfl) dX8_behindOperand_10 ⟨Nat.zero_le _, Nat.zero_le _⟩ (fun H locs hP hD hS => ?_)
    refine lv_if_eq (tgt := 125) hx hb dX8_behindOperand_13 (by decide) (fun c15 => ?_) (fun c15 => ?_)
    · replace hM := if_t c15 hM
      cases hM
      exact rt_v hx hb hr hlk hP hD hS rfl dX8_behindOperand_125
    · replace hM := if_f c15 hM
      refine lv_aload_n hx hb dX8_behindOperand_16 rfl (lv_at hl 0 rfl) ?_
      refine lv_bipush (v := 32) hx hb dX8_behindOperand_17 (by decide) ?_
      obtain ⟨r16, hcr16, hM⟩ := ob_use hM
      refine cl_V (As := [.int 32]) (rest := []) (wM_CXLNTUOE cI ad o_X r14.2.1 o_N r16.1 o_U r14.2.2 r16.2 o_Q o_V o_I o_C) [] ⟨hx, hb, hml, hown, hts⟩ (c_Model_start l D cI sd ad o_C o_X r14.2.1 o_N o_U o_Q o_V o_I o_T r14.2.2 o_E 32 r16 hcr16) (cwV2 hts q1424 mvX8_start rfl rfl ⟨(Nat.le_of_ble_eq_true rfl), (Nat.le_of_ble_eq_true rfl)⟩) hK hE hA hP hD hS 0 (T := TX8) (N := 48) (ci := 8) rfl rfl [0, 8, 9, 10, 11, 12, 13, 14, 16, 17, 18, 19] rfl (by decide) (mrgE rfl rfl) rfl rfl rfl rfl rfl hl.1 (Nat.le_of_ble_eq_true rfl) dX8_behindOperand_19 ⟨Nat.zero_le _, Nat.zero_le _⟩ (fun H locs hP hD hS => ?_)
      refine lv_aload_n hx hb dX8_behindOperand_22 rfl (lv_at hl 0 rfl) ?_
      refine lv_sipush (v := 140) hx hb dX8_behindOperand_23 (by decide) ?_
      refine lv_sipush (v := 134) hx hb dX8_behindOperand_26 (by decide) ?_
      obtain ⟨r17, hcr17, hM⟩ := ob_use hM
      refine cl_V (As := [.int 140, .int 134]) (rest := []) (wM_CXLNTUOE cI ad o_X r14.2.1 o_N r16.1 r17 r14.2.2 r16.2 o_Q o_V o_I o_C) [] ⟨hx, hb, hml, hown, hts⟩ (c_Model_push2 l D cI sd ad o_C o_X r14.2.1 o_N r16.1 r14.2.2 r16.2 o_Q o_V o_I o_U 140 134 r17 hcr17) (cwV2 hts q1257 mvX8_push2 rfl rfl ⟨(Nat.le_of_ble_eq_true rfl), (Nat.le_of_ble_eq_true rfl)⟩) hK hE hA hP hD hS 0 (T := TX8) (N := 48) (ci := 8) rfl rfl [0, 15] rfl (by decide) rfl rfl rfl rfl rfl rfl hl.1 (Nat.le_of_ble_eq_true rfl) dX8_behindOperand_29 ⟨Nat.zero_le _, Nat.zero_le _⟩ (fun H locs hP hD hS => ?_)
      refine lv_aload_n hx hb dX8_behindOperand_32 rfl (lv_at hl 0 rfl) ?_
      obtain ⟨r18, hcr18, hM⟩ := ob_use hM
      refine cl_V (As := []) (rest := []) (wM_CXLNTUOE cI ad o_X r18.1 r18.2 r16.1 r17 r14.2.2 r16.2 o_Q o_V o_I o_C) [] ⟨hx, hb, hml, hown, hts⟩ (c_Model_step l D cI sd ad r16.1 r17 r14.2.2 r16.2 o_Q o_V o_I o_C o_X r14.2.1 o_N r18 hcr18) (cwV2 hts q1151 mvX8_step rfl rfl ⟨(Nat.le_of_ble_eq_true rfl), (Nat.le_of_ble_eq_true rfl)⟩) hK hE hA hP hD hS 0 (T := TX8) (N := 48) (ci := 8) rfl rfl [0, 1, 2, 3, 4, 5, 6, 7] rfl (by decide) (mrgE rfl rfl) rfl rfl rfl rfl rfl hl.1 (Nat.le_of_ble_eq_true rfl) dX8_behindOperand_33 ⟨Nat.zero_le _, Nat.zero_le _⟩ (fun H locs hP hD hS => ?_)
      refine lv_goto (tgt := 125) hx hb dX8_behindOperand_36 (by decide) ?_
      cases hM
      exact rt_v hx hb hr hlk hP hD hS rfl dX8_behindOperand_125

set_option maxHeartbeats 4000000 in
set_option maxRecDepth 100000 in
theorem c_Model_finish (l : Launch) (D : va_G) (cI : ClassId) (sd : Nat → Nat) (ad : Nat → Nat) (o_C : S_MC) (o_X : S_MX) (o_L : S_ML) (o_N : S_MN) (o_U : S_MU) (o_Q : S_MQ) (o_V : S_MV) (o_I : S_MI) (o_T : S_MT) (o_O : S_MO) (o_E : S_ME) (res : S_MT × S_MO × S_ME) (hM : f_Model_finish o_T o_O o_E = some res) : Ctr l D cI sd yX8_finish (wsM yX8_finish cX8_finish 1 (Option.none : Option Jvm.ClassFile.FieldType)) { frames := 3, cells := 0, slots := 0, locals := 67 } [.ref (ad 100)] (wM_TOE cI ad o_X o_L o_N o_T o_U o_O o_E o_Q o_V o_I) (wM_TOE cI ad o_X o_L o_N res.1 o_U res.2.1 res.2.2 o_Q o_V o_I) none := by
  refine Ctr.of (cc := cX8_finish) (maxL := 1) (own := RX8) (by decide +kernel) rfl rfl (Nat.le_of_ble_eq_true rfl) ?_
  intro p e s m below meth c A ls hx hb hr hml hown hts hlk hK hE hA hP hD hS hl
  have hl : lv_has ls 1 [(0, .ref (ad 100))] := hl
  unfold f_Model_finish at hM
  refine lv_aload_n hx hb dX8_finish_0 rfl (lv_at hl 0 rfl) ?_
  refine lv_dup hx hb dX8_finish_1 rfl ?_
  refine va_get (D := D) (ci := 8) (v := .int o_E.2.2.1) (C := RX8) (T := TX8) (N := 48) hx hb hts layX8 hown hK hP 0 rfl rfl 38 (by decide) (hts _ (inA q1016)) (fun _ h9 => h9) rfl dX8_finish_2 ?_
  refine lv_iconst (v := 1) hx hb dX8_finish_5 (by decide) ?_
  refine lv_isub hx hb dX8_finish_6 ?_
  refine va_put (D := D) (ci := 8) (v := .int (o_E.2.2.1 - 1)) (ty := .int) (C := RX8) (T := TX8) (N := 48) hx hb hts layX8 tyX8 tyX8_ok nmX8 hown hK hP hD hS 0 rfl rfl 38 (by decide) (hts _ (inA q1016)) (fun _ h9 => h9) rfl (by decide +kernel) rfl rfl (Nat.le_of_ble_eq_true rfl) dX8_finish_7 (fun H locs hP hD hS => ?_)
  have hP : va_P D vwCl (wM_TOE cI ad o_X o_L o_N o_T o_U o_O (o_E.1, o_E.2.1, o_E.2.2.1 - 1, o_E.2.2.2) o_Q o_V o_I) H := hP
  have hD : va_D A (wM_TOE cI ad o_X o_L o_N o_T o_U o_O (o_E.1, o_E.2.1, o_E.2.2.1 - 1, o_E.2.2.2) o_Q o_V o_I) := hD
  refine lv_aload_n hx hb dX8_finish_10 rfl (lv_at hl 0 rfl) ?_
  refine lv_aload_n hx hb dX8_finish_11 rfl (lv_at hl 0 rfl) ?_
  refine va_get (D := D) (ci := 8) (v := .ref (ad 119)) (C := RX8) (T := TX8) (N := 48) hx hb hts layX8 hown hK hP 0 rfl rfl 39 (by decide) (hts _ (inA q1017)) (fun _ h9 => h9) rfl dX8_finish_12 ?_
  refine lv_aload_n hx hb dX8_finish_15 rfl (lv_at hl 0 rfl) ?_
  refine va_get (D := D) (ci := 8) (v := .int (o_E.2.2.1 - 1)) (C := RX8) (T := TX8) (N := 48) hx hb hts layX8 hown hK hP 0 rfl rfl 38 (by decide) (hts _ (inA q1016)) (fun _ h9 => h9) rfl dX8_finish_16 ?_
  obtain ⟨b1, hM⟩ := gd_use hM
  refine va_iald hx hb hK hP 11 0 rfl rfl b1 dX8_finish_19 ?_
  obtain ⟨r2, hcr2, hM⟩ := ob_use hM
  refine cl_V (As := [.int (o_E.2.2.2.2.2.2 (o_E.2.2.1 - 1).toNatClampNeg)]) (rest := []) (wM_TOE cI ad o_X o_L o_N r2.1 o_U r2.2.1 r2.2.2 o_Q o_V o_I) [] ⟨hx, hb, hml, hown, hts⟩ (c_Model_operandCame l D cI sd ad o_C o_X o_L o_N o_U o_Q o_V o_I o_T o_O (o_E.1, o_E.2.1, o_E.2.2.1 - 1, o_E.2.2.2) (o_E.2.2.2.2.2.2 (o_E.2.2.1 - 1).toNatClampNeg) r2 hcr2) (cwV2 hts q1389 mvX8_operandCame rfl rfl ⟨(Nat.le_of_ble_eq_true rfl), (Nat.le_of_ble_eq_true rfl)⟩) hK hE hA hP hD hS 0 (T := TX8) (N := 48) (ci := 8) rfl rfl [0, 1, 2, 3, 4, 5, 6, 7, 8, 9, 10, 11] (rng_hi (n := 12) rfl rfl) (by decide) (rng_rep (n := 12) rfl rfl rfl) rfl rfl rfl rfl rfl hl.1 (Nat.le_of_ble_eq_true rfl) dX8_finish_20 ⟨Nat.zero_le _, Nat.zero_le _⟩ (fun H locs hP hD hS => ?_)
  cases hM
  exact rt_v hx hb hr hlk hP hD hS rfl dX8_finish_23

set_option maxHeartbeats 4000000 in
set_option maxRecDepth 100000 in
theorem c_Model_argument (l : Launch) (D : va_G) (cI : ClassId) (sd : Nat → Nat) (ad : Nat → Nat) (o_C : S_MC) (o_X : S_MX) (o_L : S_ML) (o_N : S_MN) (o_U : S_MU) (o_O : S_MO) (o_Q : S_MQ) (o_V : S_MV) (o_I : S_MI) (o_T : S_MT) (o_E : S_ME) (res : S_MT × S_ME) (hM : f_Model_argument o_T o_E = some res) : Ctr l D cI sd yX8_argument (wsM yX8_argument cX8_argument 1 (Option.none : Option Jvm.ClassFile.FieldType)) { frames := 1, cells := 0, slots := 0, locals := 22 } [.ref (ad 100)] (wM_TE cI ad o_X o_L o_N o_T o_U o_O o_E o_Q o_V o_I) (wM_TE cI ad o_X o_L o_N res.1 o_U o_O res.2 o_Q o_V o_I) none := by
  refine Ctr.of (cc := cX8_argument) (maxL := 1) (own := RX8) (by decide +kernel) rfl rfl (Nat.le_of_ble_eq_true rfl) ?_
  intro p e s m below meth c A ls hx hb hr hml hown hts hlk hK hE hA hP hD hS hl
  have hl : lv_has ls 1 [(0, .ref (ad 100))] := hl
  unfold f_Model_argument at hM
  refine lv_aload_n hx hb dX8_argument_0 rfl (lv_at hl 0 rfl) ?_
  refine lv_aload_n hx hb dX8_argument_1 rfl (lv_at hl 0 rfl) ?_
  obtain ⟨r1, hcr1, hM⟩ := ob_use hM
  refine cl_V (As := []) (rest := [.ref (ad 100)]) (wM_TE cI ad o_X o_L o_N o_T o_U o_O r1.2 o_Q o_V o_I) (.int r1.1 :: [.ref (ad 100)]) ⟨hx, hb, hml, hown, hts⟩ (c_Model_takeOperand l D cI sd ad o_C o_X o_L o_N o_T o_U o_O o_Q o_V o_I o_E r1 hcr1) (cwV2 hts q1401 mvX8_takeOperand rfl rfl ⟨(Nat.le_of_ble_eq_true rfl), (Nat.le_of_ble_eq_true rfl)⟩) hK hE hA hP hD hS 0 (T := TX8) (N := 48) (ci := 8) rfl rfl [0, 8, 9, 10, 11] rfl (by decide) (mrgE rfl rfl) rfl rfl rfl rfl rfl hl.1 (Nat.le_of_ble_eq_true rfl) dX8_argument_2 ⟨Nat.zero_le _, Nat.zero_le _⟩ (fun H locs hP hD hS => ?_)
  refine lv_aload_n hx hb dX8_argument_5 rfl (lv_at hl 0 rfl) ?_
  refine va_get (D := D) (ci := 8) (v := .ref (ad 119)) (C := RX8) (T := TX8) (N := 48) hx hb hts layX8 hown hK hP 0 rfl rfl 39 (by decide) (hts _ (inA q1017)) (fun _ h9 => h9) rfl dX8_argument_6 ?_
  refine lv_aload_n hx hb dX8_argument_9 rfl (lv_at hl 0 rfl) ?_
  refine va_get (D := D) (ci := 8) (v := .int r1.2.2.2.1) (C := RX8) (T := TX8) (N := 48) hx hb hts layX8 hown hK hP 0 rfl rfl 38 (by decide) (hts _ (inA q1016)) (fun _ h9 => h9) rfl dX8_argument_10 ?_
  refine lv_iconst (v := 1) hx hb dX8_argument_13 (by decide) ?_
  refine lv_isub hx hb dX8_argument_14 ?_
  obtain ⟨b2, hM⟩ := gd_use hM
  refine va_iald hx hb hK hP 11 0 rfl rfl b2 dX8_argument_15 ?_
  obtain ⟨r3, hcr3, hM⟩ := ob_use hM
  refine cl_V (As := [.int r1.1, .int (r1.2.2.2.2.2.2.2 (r1.2.2.2.1 - 1).toNatClampNeg)]) (rest := []) (wM_TE cI ad o_X o_L o_N r3 o_U o_O r1.2 o_Q o_V o_I) [] ⟨hx, hb, hml, hown, hts⟩ (c_Model_hang l D cI sd ad o_C o_X o_L o_N o_U o_O r1.2 o_Q o_V o_I o_T r1.1 (r1.2.2.2.2.2.2.2 (r1.2.2.2.1 - 1).toNatClampNeg) r3 hcr3) (cwV2 hts q1249 mvX8_hang rfl rfl ⟨(Nat.le_of_ble_eq_true rfl), (Nat.le_of_ble_eq_true rfl)⟩) hK hE hA hP hD hS 0 (T := TX8) (N := 48) (ci := 8) rfl rfl [0, 1, 2, 3, 4, 5, 6, 7] rfl (by decide) (mrgE rfl rfl) rfl rfl rfl rfl rfl hl.1 (Nat.le_of_ble_eq_true rfl) dX8_argument_16 ⟨Nat.zero_le _, Nat.zero_le _⟩ (fun H locs hP hD hS => ?_)
  cases hM
  exact rt_v hx hb hr hlk hP hD hS rfl dX8_argument_19

set_option maxHeartbeats 4000000 in
set_option maxRecDepth 100000 in
theorem c_Model_elementEnd (l : Launch) (D : va_G) (cI : ClassId) (sd : Nat → Nat) (ad : Nat → Nat) (o_U : S_MU) (o_Q : S_MQ) (o_V : S_MV) (o_I : S_MI) (o_C : S_MC) (o_X : S_MX) (o_L : S_ML) (o_N : S_MN) (o_T : S_MT) (o_O : S_MO) (o_E : S_ME) (res : S_ML × S_MN × S_MT × S_MO × S_ME) (hM : f_Model_elementEnd o_C o_X o_L o_N o_T o_O o_E = some res) : Ctr l D cI sd yX8_elementEnd (wsM yX8_elementEnd cX8_elementEnd 1 (Option.none : Option Jvm.ClassFile.FieldType)) { frames := 6, cells := 0, slots := 0, locals := 133 } [.ref (ad 100)] (wM_CXLNTOE cI ad o_X o_L o_N o_T o_U o_O o_E o_Q o_V o_I o_C) (wM_CXLNTOE cI ad o_X res.1 res.2.1 res.2.2.1 o_U res.2.2.2.1 res.2.2.2.2 o_Q o_V o_I o_C) none := by
  refine Ctr.of (cc := cX8_elementEnd) (maxL := 1) (own := RX8) (by decide +kernel) rfl rfl (Nat.le_of_ble_eq_true rfl) ?_
  intro p e s m below meth c A ls hx hb hr hml hown hts hlk hK hE hA hP hD hS hl
  have hl : lv_has ls 1 [(0, .ref (ad 100))] := hl
  unfold f_Model_elementEnd at hM
  refine lv_aload_n hx hb dX8_elementEnd_0 rfl (lv_at hl 0 rfl) ?_
  refine lv_dup hx hb dX8_elementEnd_1 rfl ?_
  refine va_get (D := D) (ci := 8) (v := .int o_O.1) (C := RX8) (T := TX8) (N := 48) hx hb hts layX8 hown hK hP 0 rfl rfl 27 (by decide) (hts _ (inA q1005)) (fun _ h9 => h9) rfl dX8_elementEnd_2 ?_
  refine lv_iconst (v := 1) hx hb dX8_elementEnd_5 (by decide) ?_
  refine lv_isub hx hb dX8_elementEnd_6 ?_
  refine va_put (D := D) (ci := 8) (v := .int (o_O.1 - 1)) (ty := .int) (C := RX8) (T := TX8) (N := 48) hx hb hts layX8 tyX8 tyX8_ok nmX8 hown hK hP hD hS 0 rfl rfl 27 (by decide) (hts _ (inA q1005)) (fun _ h9 => h9) rfl (by decide +kernel) rfl rfl (Nat.le_of_ble_eq_true rfl) dX8_elementEnd_7 (fun H locs hP hD hS => ?_)
  have hP : va_P D vwCl (wM_CXLNTOE cI ad o_X o_L o_N o_T o_U (o_O.1 - 1, o_O.2) o_E o_Q o_V o_I o_C) H := hP
  have hD : va_D A (wM_CXLNTOE cI ad o_X o_L o_N o_T o_U (o_O.1 - 1, o_O.2) o_E o_Q o_V o_I o_C) := hD
  refine lv_aload_n hx hb dX8_elementEnd_10 rfl (lv_at hl 0 rfl) ?_
  obtain ⟨r1, hcr1, hM⟩ := ob_use hM
  refine cl_V (As := []) (rest := []) (wM_CXLNTOE cI ad o_X o_L o_N r1.1 o_U (o_O.1 - 1, o_O.2) r1.2 o_Q o_V o_I o_C) [] ⟨hx, hb, hml, hown, hts⟩ (c_Model_argument l D cI sd ad o_C o_X o_L o_N o_U (o_O.1 - 1, o_O.2) o_Q o_V o_I o_T o_E r1 hcr1) (cwV2 hts q1432 mvX8_argument rfl rfl ⟨(Nat.le_of_ble_eq_true rfl), (Nat.le_of_ble_eq_true rfl)⟩) hK hE hA hP hD hS 0 (T := TX8) (N := 48) (ci := 8) rfl rfl [0, 8, 9, 10, 11, 12, 13, 14, 15, 16, 17, 18] rfl (by decide) (mrgE rfl rfl) rfl rfl rfl rfl rfl hl.1 (Nat.le_of_ble_eq_true rfl) dX8_elementEnd_11 ⟨Nat.zero_le _, Nat.zero_le _⟩ (fun H locs hP hD hS => ?_)
  refine lv_aload_n hx hb dX8_elementEnd_14 rfl (lv_at hl 0 rfl) ?_
  obtain ⟨r2, hcr2, hM⟩ := ob_use hM
  refine cl_V (As := []) (rest := []) (wM_CXLNTOE cI ad o_X o_L o_N r2.1 o_U r2.2.1 r2.2.2 o_Q o_V o_I o_C) [] ⟨hx, hb, hml, hown, hts⟩ (c_Model_finish l D cI sd ad o_C o_X o_L o_N o_U o_Q o_V o_I r1.1 (o_O.1 - 1, o_O.2) r1.2 r2 hcr2) (cwV2 hts q1436 mvX8_finish rfl rfl ⟨(Nat.le_of_ble_eq_true rfl), (Nat.le_of_ble_eq_true rfl)⟩) hK hE hA hP hD hS 0 (T := TX8) (N := 48) (ci := 8) rfl rfl [0, 8, 9, 10, 11, 12, 13, 14, 15, 16, 17, 18] rfl (by decide) (mrgE rfl rfl) rfl rfl rfl rfl rfl hl.1 (Nat.le_of_ble_eq_true rfl) dX8_elementEnd_15 ⟨Nat.zero_le _, Nat.zero_le _⟩ (fun H locs hP hD hS => ?_)
  refine lv_aload_n hx hb dX8_elementEnd_18 rfl (lv_at hl 0 rfl) ?_
  refine lv_bipush (v := 58) hx hb dX8_elementEnd_19 (by decide) ?_
  obtain ⟨r3, hcr3, hM⟩ := ob_use hM
  refine cl_V (As := [.int 58]) (rest := []) (wM_CXLNTOE cI ad o_X r3.1 r3.2 r2.1 o_U r2.2.1 r2.2.2 o_Q o_V o_I o_C) [] ⟨hx, hb, hml, hown, hts⟩ (c_Model_pass l D cI sd ad r2.1 o_U r2.2.1 r2.2.2 o_Q o_V o_I o_C o_X o_L o_N 58 r3 hcr3) (cwV2 hts q1229 mvX8_pass rfl rfl ⟨(Nat.le_of_ble_eq_true rfl), (Nat.le_of_ble_eq_true rfl)⟩) hK hE hA hP hD hS 0 (T := TX8) (N := 48) (ci := 8) rfl rfl [0, 1, 2, 3, 4, 5, 6, 7] rfl (by decide) (mrgE rfl rfl) rfl rfl rfl rfl rfl hl.1 (Nat.le_of_ble_eq_true rfl) dX8_elementEnd_21 ⟨Nat.zero_le _, Nat.zero_le _⟩ (fun H locs hP hD hS => ?_)
  cases hM
  exact rt_v hx hb hr hlk hP hD hS rfl dX8_elementEnd_24

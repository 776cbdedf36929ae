set_option maxHeartbeats 4000000 in
set_option maxRecDepth 100000 in
theorem c_Model_step (l : Launch) (D : va_G) (cI : ClassId) (sd : Nat → Nat) (ad : Nat → Nat) (o_T : S_MT) (o_U : S_MU) (o_O : S_MO) (o_E : S_ME) (o_Q : S_MQ) (o_V : S_MV) (o_I : S_MI) (o_C : S_MC) (o_X : S_MX) (o_L : S_ML) (o_N : S_MN) (res : S_ML × S_MN) (hM : f_Model_step o_C o_X o_L o_N = some res) : Ctr l D cI sd yX8_step (wsM yX8_step cX8_step 2 (Option.none : Option Jvm.ClassFile.FieldType)) { frames := 4, cells := 0, slots := 0, locals := 91 } [.ref (ad 100)] (wM_CXLN cI ad o_X o_L o_N o_T o_U o_O o_E o_Q o_V o_I o_C) (wM_CXLN cI ad o_X res.1 res.2 o_T o_U o_O o_E o_Q o_V o_I o_C) none := by
  refine Ctr.of (cc := cX8_step) (maxL := 2) (own := RX8) (by decide +kernel) rfl rfl (Nat.le_of_ble_eq_true rfl) ?_
  intro p e s m below meth c A ls hx hb hr hml hown hts hlk hK hE hA hP hD hS hl
  have hl : lv_has ls 2 [(0, .ref (ad 100))] := hl
  unfold f_Model_step at hM
  refine lv_aload_n hx hb dX8_step_0 rfl (lv_at hl 0 rfl) ?_
  refine lv_aload_n hx hb dX8_step_1 rfl (lv_at hl 0 rfl) ?_
  refine va_get (D := D) (ci := 8) (v := .int o_L.1) (C := RX8) (T := TX8) (N := 48) hx hb hts layX8 hown hK hP 0 rfl rfl 6 (by decide) (hts _ (inA q984)) (fun _ h9 => h9) rfl dX8_step_2 ?_
  refine va_put (D := D) (ci := 8) (v := .int o_L.1) (ty := .int) (C := RX8) (T := TX8) (N := 48) hx hb hts layX8 tyX8 tyX8_ok nmX8 hown hK hP hD hS 0 rfl rfl 10 (by decide) (hts _ (inA q988)) (fun _ h9 => h9) rfl (by decide +kernel) rfl rfl (Nat.le_of_ble_eq_true rfl) dX8_step_5 (fun H locs hP hD hS => ?_)
  have hP : va_P D vwCl (wM_CXLN cI ad o_X (o_L.1, o_L.2.1, o_L.2.2.1, o_L.2.2.2.1, o_L.1, o_L.2.2.2.2.2) o_N o_T o_U o_O o_E o_Q o_V o_I o_C) H := hP
  have hD : va_D A (wM_CXLN cI ad o_X (o_L.1, o_L.2.1, o_L.2.2.1, o_L.2.2.2.1, o_L.1, o_L.2.2.2.2.2) o_N o_T o_U o_O o_E o_Q o_V o_I o_C) := hD
  refine lv_aload_n hx hb dX8_step_8 rfl (lv_at hl 0 rfl) ?_
  obtain ⟨r1, hcr1, hM⟩ := ob_use hM
  refine cl_V (As := []) (rest := []) (wM_CXLN cI ad o_X r1 o_N o_T o_U o_O o_E o_Q o_V o_I o_C) [] ⟨hx, hb, hml, hown, hts⟩ (c_Model_skip l D cI sd ad o_C o_N o_T o_U o_O o_E o_Q o_V o_I o_X (o_L.1, o_L.2.1, o_L.2.2.1, o_L.2.2.2.1, o_L.1, o_L.2.2.2.2.2) r1 hcr1) (cwV2 hts q1155 mvX8_skip rfl rfl ⟨(Nat.le_of_ble_eq_true rfl), (Nat.le_of_ble_eq_true rfl)⟩) hK hE hA hP hD hS 0 (T := TX8) (N := 48) (ci := 8) rfl rfl [0, 5] rfl (by decide) rfl rfl rfl rfl rfl rfl hl.1 (Nat.le_of_ble_eq_true rfl) dX8_step_9 ⟨Nat.zero_le _, Nat.zero_le _⟩ (fun H locs hP hD hS => ?_)
  refine lv_aload_n hx hb dX8_step_12 rfl (lv_at hl 0 rfl) ?_
  refine lv_aload_n hx hb dX8_step_13 rfl (lv_at hl 0 rfl) ?_
  refine va_get (D := D) (ci := 8) (v := .int r1.2.2.2.1) (C := RX8) (T := TX8) (N := 48) hx hb hts layX8 hown hK hP 0 rfl rfl 9 (by decide) (hts _ (inA q987)) (fun _ h9 => h9) rfl dX8_step_14 ?_
  refine lv_aload_n hx hb dX8_step_17 rfl (lv_at hl 0 rfl) ?_
  refine va_get (D := D) (ci := 8) (v := .int o_X.1) (C := RX8) (T := TX8) (N := 48) hx hb hts layX8 hown hK hP 0 rfl rfl 4 (by decide) (hts _ (inA q982)) (fun _ h9 => h9) rfl dX8_step_18 ?_
  refine lv_icmp_ge (tgt := 31) hx hb dX8_step_21 (by decide) (fun c2 => ?_) (fun c2 => ?_)
  · replace hM := if_t c2 hM
    refine lv_aload_n hx hb dX8_step_31 rfl (lv_at hl 0 rfl) ?_
    refine va_get (D := D) (ci := 8) (v := .int o_X.1) (C := RX8) (T := TX8) (N := 48) hx hb hts layX8 hown hK hP 0 rfl rfl 4 (by decide) (hts _ (inA q982)) (fun _ h9 => h9) rfl dX8_step_32 ?_
    refine va_put (D := D) (ci := 8) (v := .int o_X.1) (ty := .int) (C := RX8) (T := TX8) (N := 48) hx hb hts layX8 tyX8 tyX8_ok nmX8 hown hK hP hD hS 0 rfl rfl 6 (by decide) (hts _ (inA q984)) (fun _ h9 => h9) rfl (by decide +kernel) rfl rfl (Nat.le_of_ble_eq_true rfl) dX8_step_35 (fun H locs hP hD hS => ?_)
    have hP : va_P D vwCl (wM_CXLN cI ad o_X (o_X.1, r1.2) o_N o_T o_U o_O o_E o_Q o_V o_I o_C) H := hP
    have hD : va_D A (wM_CXLN cI ad o_X (o_X.1, r1.2) o_N o_T o_U o_O o_E o_Q o_V o_I o_C) := hD
    refine lv_aload_n hx hb dX8_step_38 rfl (lv_at hl 0 rfl) ?_
    refine va_get (D := D) (ci := 8) (v := .int r1.2.2.2.2.2.1) (C := RX8) (T := TX8) (N := 48) hx hb hts layX8 hown hK hP 0 rfl rfl 11 (by decide) (hts _ (inA q989)) (fun _ h9 => h9) rfl dX8_step_39 ?_
    refine lv_if_le (tgt := 46) hx hb dX8_step_42 (by decide) (fun c3 => ?_) (fun c3 => ?_)
    · replace hM := if_t c3 hM
      refine lv_aload_n hx hb dX8_step_46 rfl (lv_at hl 0 rfl) ?_
      refine lv_aload_n hx hb dX8_step_47 rfl (lv_at hl 0 rfl) ?_
      refine va_get (D := D) (ci := 8) (v := .int o_X.1) (C := RX8) (T := TX8) (N := 48) hx hb hts layX8 hown hK hP 0 rfl rfl 6 (by decide) (hts _ (inA q984)) (fun _ h9 => h9) rfl dX8_step_48 ?_
      obtain ⟨r4, hcr4, hM⟩ := ob_use hM
      refine cl_V (As := [.int o_X.1]) (rest := []) (wM_CXLN cI ad o_X (o_X.1, r1.2) o_N o_T o_U o_O o_E o_Q o_V o_I o_C) (.int r4 :: []) ⟨hx, hb, hml, hown, hts⟩ (c_Model_at l D cI sd ad o_C (o_X.1, r1.2) o_N o_T o_U o_O o_E o_Q o_V o_I o_X o_X.1 r4 hcr4) (cwV2 hts q1159 mvX8_at rfl rfl ⟨(Nat.le_of_ble_eq_true rfl), (Nat.le_of_ble_eq_true rfl)⟩) hK hE hA hP hD hS 0 (T := TX8) (N := 48) (ci := 8) rfl rfl [0, 5] rfl (by decide) rfl rfl rfl rfl rfl rfl hl.1 (Nat.le_of_ble_eq_true rfl) dX8_step_51 ⟨Nat.zero_le _, Nat.zero_le _⟩ (fun H locs hP hD hS => ?_)
      refine lv_istore_n (lv' := [(1, .int r4), (0, .ref (ad 100))]) hx hb dX8_step_54 rfl hl (by decide) rfl (fun ls hl => ?_)
      refine lv_iload_n hx hb dX8_step_55 rfl (lv_at hl 0 rfl) ?_
      refine lv_iconst (v := (-1)) hx hb dX8_step_56 (by decide) ?_
      refine lv_icmp_ne (tgt := 69) hx hb dX8_step_57 (by decide) (fun c5 => ?_) (fun c5 => ?_)
      · replace hM := if_f c5 hM
        refine lv_iload_n hx hb dX8_step_69 rfl (lv_at hl 0 rfl) ?_
        refine lv_bipush (v := 84) hx hb dX8_step_70 (by decide) ?_
        refine lv_icmp_eq (tgt := 81) hx hb dX8_step_72 (by decide) (fun c6 => ?_) (fun c6 => ?_)
        · replace hM := if_t c6 hM
          refine lv_aload_n hx hb dX8_step_81 rfl (lv_at hl 1 rfl) ?_
          refine lv_aload_n hx hb dX8_step_82 rfl (lv_at hl 1 rfl) ?_
          refine va_get (D := D) (ci := 8) (v := .int o_X.1) (C := RX8) (T := TX8) (N := 48) hx hb hts layX8 hown hK hP 0 rfl rfl 6 (by decide) (hts _ (inA q984)) (fun _ h9 => h9) rfl dX8_step_83 ?_
          refine lv_iconst (v := 1) hx hb dX8_step_86 (by decide) ?_
          refine lv_iadd hx hb dX8_step_87 ?_
          obtain ⟨r7, hcr7, hM⟩ := ob_use hM
          refine cl_V (As := [.int (o_X.1 + 1)]) (rest := []) (wM_CXLN cI ad o_X (o_X.1, r1.2) o_N o_T o_U o_O o_E o_Q o_V o_I o_C) (.int r7 :: []) ⟨hx, hb, hml, hown, hts⟩ (c_Model_at l D cI sd ad o_C (o_X.1, r1.2) o_N o_T o_U o_O o_E o_Q o_V o_I o_X (o_X.1 + 1) r7 hcr7) (cwV2 hts q1159 mvX8_at rfl rfl ⟨(Nat.le_of_ble_eq_true rfl), (Nat.le_of_ble_eq_true rfl)⟩) hK hE hA hP hD hS 0 (T := TX8) (N := 48) (ci := 8) rfl rfl [0, 5] rfl (by decide) rfl rfl rfl rfl rfl rfl hl.1 (Nat.le_of_ble_eq_true rfl) dX8_step_88 ⟨Nat.zero_le _, Nat.zero_le _⟩ (fun H locs hP hD hS => ?_)
          refine lv_bipush (v := 35) hx hb dX8_step_91 (by decide) ?_
          refine lv_icmp_ne (tgt := 104) hx hb dX8_step_93 (by decide) (fun c8 => ?_) (fun c8 => ?_)
          · replace hM := if_f c8 hM
            refine lv_iload_n hx hb dX8_step_104 rfl (lv_at hl 0 rfl) ?_
            obtain ⟨r9, hcr9, hM⟩ := ob_use hM
            refine cl_S (As := [.int r4]) (rest := []) (wM_CXLN cI ad o_X (o_X.1, r1.2) o_N o_T o_U o_O o_E o_Q o_V o_I o_C) (.int r9 :: []) ⟨hx, hb, hml, hown, hts⟩ (c_Model_isLetter l D cI sd ad r4 r9 hcr9) (cwS2 hts q1199 mvX8_isLetter rfl rfl ⟨(Nat.le_of_ble_eq_true rfl), (Nat.le_of_ble_eq_true rfl)⟩) hK hE hA hP hD hS [] rfl (by decide) rfl rfl rfl rfl rfl rfl hl.1 (Nat.le_of_ble_eq_true rfl) dX8_step_105 ⟨Nat.zero_le _, Nat.zero_le _⟩ (fun H locs hP hD hS => ?_)
            refine lv_if_eq (tgt := 118) hx hb dX8_step_108 (by decide) (fun c10 => ?_) (fun c10 => ?_)
            · replace hM := if_t c10 hM
              refine lv_iload_n hx hb dX8_step_118 rfl (lv_at hl 0 rfl) ?_
              obtain ⟨r11, hcr11, hM⟩ := ob_use hM
              refine cl_S (As := [.int r4]) (rest := []) (wM_CXLN cI ad o_X (o_X.1, r1.2) o_N o_T o_U o_O o_E o_Q o_V o_I o_C) (.int r11 :: []) ⟨hx, hb, hml, hown, hts⟩ (c_Model_isDigit l D cI sd ad r4 r11 hcr11) (cwS2 hts q1181 mvX8_isDigit rfl rfl ⟨(Nat.le_of_ble_eq_true rfl), (Nat.le_of_ble_eq_true rfl)⟩) hK hE hA hP hD hS [] rfl (by decide) rfl rfl rfl rfl rfl rfl hl.1 (Nat.le_of_ble_eq_true rfl) dX8_step_119 ⟨Nat.zero_le _, Nat.zero_le _⟩ (fun H locs hP hD hS => ?_)
              refine lv_if_eq (tgt := 133) hx hb dX8_step_122 (by decide) (fun c12 => ?_) (fun c12 => ?_)
              · replace hM := if_t c12 hM
                refine lv_iload_n hx hb dX8_step_133 rfl (lv_at hl 0 rfl) ?_
                refine lv_bipush (v := 37) hx hb dX8_step_134 (by decide) ?_
                refine lv_icmp_ne (tgt := 146) hx hb dX8_step_136 (by decide) (fun c13 => ?_) (fun c13 => ?_)
                · replace hM := if_f c13 hM
                  refine lv_aload_n hx hb dX8_step_146 rfl (lv_at hl 1 rfl) ?_
                  obtain ⟨r14, hcr14, hM⟩ := ob_use hM
                  refine cl_V (As := []) (rest := []) (wM_CXLN cI ad o_X r14 o_N o_T o_U o_O o_E o_Q o_V o_I o_C) [] ⟨hx, hb, hml, hown, hts⟩ (c_Model_readSign l D cI sd ad o_N o_T o_U o_O o_E o_Q o_V o_I o_C o_X (o_X.1, r1.2) r14 hcr14) (cwV2 hts q1221 mvX8_readSign rfl rfl ⟨(Nat.le_of_ble_eq_true rfl), (Nat.le_of_ble_eq_true rfl)⟩) hK hE hA hP hD hS 0 (T := TX8) (N := 48) (ci := 8) rfl rfl [0, 1, 2, 3, 4, 5] rfl (by decide) (mrgE rfl rfl) rfl rfl rfl rfl rfl hl.1 (Nat.le_of_ble_eq_true rfl) dX8_step_147 ⟨Nat.zero_le _, Nat.zero_le _⟩ (fun H locs hP hD hS => ?_)
                  cases hM
                  exact rt_v hx hb hr hlk hP hD hS rfl dX8_step_150
                · replace hM := if_t c13 hM
                  refine lv_aload_n hx hb dX8_step_139 rfl (lv_at hl 1 rfl) ?_
                  obtain ⟨r15, hcr15, hM⟩ := ob_use hM
                  refine cl_V (As := []) (rest := []) (wM_CXLN cI ad o_X r15 o_N o_T o_U o_O o_E o_Q o_V o_I o_C) [] ⟨hx, hb, hml, hown, hts⟩ (c_Model_readPlace l D cI sd ad o_N o_T o_U o_O o_E o_Q o_V o_I o_C o_X (o_X.1, r1.2) r15 hcr15) (cwV2 hts q1215 mvX8_readPlace rfl rfl ⟨(Nat.le_of_ble_eq_true rfl), (Nat.le_of_ble_eq_true rfl)⟩) hK hE hA hP hD hS 0 (T := TX8) (N := 48) (ci := 8) rfl rfl [0, 1, 2, 3, 4, 5] rfl (by decide) (mrgE rfl rfl) rfl rfl rfl rfl rfl hl.1 (Nat.le_of_ble_eq_true rfl) dX8_step_140 ⟨Nat.zero_le _, Nat.zero_le _⟩ (fun H locs hP hD hS => ?_)
                  refine lv_goto (tgt := 150) hx hb dX8_step_143 (by decide) ?_
                  cases hM
                  exact rt_v hx hb hr hlk hP hD hS rfl dX8_step_150
              · replace hM := if_f c12 hM
                refine lv_aload_n hx hb dX8_step_125 rfl (lv_at hl 1 rfl) ?_
                refine lv_iconst (v := 0) hx hb dX8_step_126 (by decide) ?_
                obtain ⟨r16, hcr16, hM⟩ := ob_use hM
                refine cl_V (As := [.int 0]) (rest := []) (wM_CXLN cI ad o_X r16 o_N o_T o_U o_O o_E o_Q o_V o_I o_C) [] ⟨hx, hb, hml, hown, hts⟩ (c_Model_readNumber l D cI sd ad o_C o_N o_T o_U o_O o_E o_Q o_V o_I o_X (o_X.1, r1.2) 0 r16 hcr16) (cwV2 hts q1167 mvX8_readNumber rfl rfl ⟨(Nat.le_of_ble_eq_true rfl), (Nat.le_of_ble_eq_true rfl)⟩) hK hE hA hP hD hS 0 (T := TX8) (N := 48) (ci := 8) rfl rfl [0, 5] rfl (by decide) rfl rfl rfl rfl rfl rfl hl.1 (Nat.le_of_ble_eq_true rfl) dX8_step_127 ⟨Nat.zero_le _, Nat.zero_le _⟩ (fun H locs hP hD hS => ?_)
                refine lv_goto (tgt := 150) hx hb dX8_step_130 (by decide) ?_
                cases hM
                exact rt_v hx hb hr hlk hP hD hS rfl dX8_step_150
            · replace hM := if_f c10 hM
              refine lv_aload_n hx hb dX8_step_111 rfl (lv_at hl 1 rfl) ?_
              obtain ⟨r17, hcr17, hM⟩ := ob_use hM
              refine cl_V (As := []) (rest := []) (wM_CXLN cI ad o_X r17.1 r17.2 o_T o_U o_O o_E o_Q o_V o_I o_C) [] ⟨hx, hb, hml, hown, hts⟩ (c_Model_readName l D cI sd ad o_T o_U o_O o_E o_Q o_V o_I o_C o_X (o_X.1, r1.2) o_N r17 hcr17) (cwV2 hts q1203 mvX8_readName rfl rfl ⟨(Nat.le_of_ble_eq_true rfl), (Nat.le_of_ble_eq_true rfl)⟩) hK hE hA hP hD hS 0 (T := TX8) (N := 48) (ci := 8) rfl rfl [0, 1, 2, 3, 4, 5, 6, 7] rfl (by decide) (mrgE rfl rfl) rfl rfl rfl rfl rfl hl.1 (Nat.le_of_ble_eq_true rfl) dX8_step_112 ⟨Nat.zero_le _, Nat.zero_le _⟩ (fun H locs hP hD hS => ?_)
              refine lv_goto (tgt := 150) hx hb dX8_step_115 (by decide) ?_
              cases hM
              exact rt_v hx hb hr hlk hP hD hS rfl dX8_step_150
          · replace hM := if_t c8 hM
            refine lv_aload_n hx hb dX8_step_96 rfl (lv_at hl 1 rfl) ?_
            refine lv_iconst (v := 1) hx hb dX8_step_97 (by decide) ?_
            obtain ⟨r18, hcr18, hM⟩ := ob_use hM
            refine cl_V (As := [.int 1]) (rest := []) (wM_CXLN cI ad o_X r18 o_N o_T o_U o_O o_E o_Q o_V o_I o_C) [] ⟨hx, hb, hml, hown, hts⟩ (c_Model_readNumber l D cI sd ad o_C o_N o_T o_U o_O o_E o_Q o_V o_I o_X (o_X.1, r1.2) 1 r18 hcr18) (cwV2 hts q1167 mvX8_readNumber rfl rfl ⟨(Nat.le_of_ble_eq_true rfl), (Nat.le_of_ble_eq_true rfl)⟩) hK hE hA hP hD hS 0 (T := TX8) (N := 48) (ci := 8) rfl rfl [0, 5] rfl (by decide) rfl rfl rfl rfl rfl rfl hl.1 (Nat.le_of_ble_eq_true rfl) dX8_step_98 ⟨Nat.zero_le _, Nat.zero_le _⟩ (fun H locs hP hD hS => ?_)
            refine lv_goto (tgt := 150) hx hb dX8_step_101 (by decide) ?_
            cases hM
            exact rt_v hx hb hr hlk hP hD hS rfl dX8_step_150
        · replace hM := if_f c6 hM
          refine lv_iload_n hx hb dX8_step_75 rfl (lv_at hl 0 rfl) ?_
          refine lv_bipush (v := 116) hx hb dX8_step_76 (by decide) ?_
          refine lv_icmp_ne (tgt := 104) hx hb dX8_step_78 (by decide) (fun c19 => ?_) (fun c19 => ?_)
          · replace hM := if_f c19 hM
            refine lv_iload_n hx hb dX8_step_104 rfl (lv_at hl 0 rfl) ?_
            obtain ⟨r20, hcr20, hM⟩ := ob_use hM
            refine cl_S (As := [.int r4]) (rest := []) (wM_CXLN cI ad o_X (o_X.1, r1.2) o_N o_T o_U o_O o_E o_Q o_V o_I o_C) (.int r20 :: []) ⟨hx, hb, hml, hown, hts⟩ (c_Model_isLetter l D cI sd ad r4 r20 hcr20) (cwS2 hts q1199 mvX8_isLetter rfl rfl ⟨(Nat.le_of_ble_eq_true rfl), (Nat.le_of_ble_eq_true rfl)⟩) hK hE hA hP hD hS [] rfl (by decide) rfl rfl rfl rfl rfl rfl hl.1 (Nat.le_of_ble_eq_true rfl) dX8_step_105 ⟨Nat.zero_le _, Nat.zero_le _⟩ (fun H locs hP hD hS => ?_)
            refine lv_if_eq (tgt := 118) hx hb dX8_step_108 (by decide) (fun c21 => ?_) (fun c21 => ?_)
            · replace hM := if_t c21 hM
              refine lv_iload_n hx hb dX8_step_118 rfl (lv_at hl 0 rfl) ?_
              obtain ⟨r22, hcr22, hM⟩ := ob_use hM
              refine cl_S (As := [.int r4]) (rest := []) (wM_CXLN cI ad o_X (o_X.1, r1.2) o_N o_T o_U o_O o_E o_Q o_V o_I o_C) (.int r22 :: []) ⟨hx, hb, hml, hown, hts⟩ (c_Model_isDigit l D cI sd ad r4 r22 hcr22) (cwS2 hts q1181 mvX8_isDigit rfl rfl ⟨(Nat.le_of_ble_eq_true rfl), (Nat.le_of_ble_eq_true rfl)⟩) hK hE hA hP hD hS [] rfl (by decide) rfl rfl rfl rfl rfl rfl hl.1 (Nat.le_of_ble_eq_true rfl) dX8_step_119 ⟨Nat.zero_le _, Nat.zero_le _⟩ (fun H locs hP hD hS => ?_)
              refine lv_if_eq (tgt := 133) hx hb dX8_step_122 (by decide) (fun c23 => ?_) (fun c23 => ?_)
              · replace hM := if_t c23 hM
                refine lv_iload_n hx hb dX8_step_133 rfl (lv_at hl 0 rfl) ?_
                refine lv_bipush (v := 37) hx hb dX8_step_134 (by decide) ?_
                refine lv_icmp_ne (tgt := 146) hx hb dX8_step_136 (by decide) (fun c24 => ?_) (fun c24 => ?_)
                · replace hM := if_f c24 hM
                  refine lv_aload_n hx hb dX8_step_146 rfl (lv_at hl 1 rfl) ?_
                  obtain ⟨r25, hcr25, hM⟩ := ob_use hM
                  refine cl_V (As := []) (rest := []) (wM_CXLN cI ad o_X r25 o_N o_T o_U o_O o_E o_Q o_V o_I o_C) [] ⟨hx, hb, hml, hown, hts⟩ (c_Model_readSign l D cI sd ad o_N o_T o_U o_O o_E o_Q o_V o_I o_C o_X (o_X.1, r1.2) r25 hcr25) (cwV2 hts q1221 mvX8_readSign rfl rfl ⟨(Nat.le_of_ble_eq_true rfl), (Nat.le_of_ble_eq_true rfl)⟩) hK hE hA hP hD hS 0 (T := TX8) (N := 48) (ci := 8) rfl rfl [0, 1, 2, 3, 4, 5] rfl (by decide) (mrgE rfl rfl) rfl rfl rfl rfl rfl hl.1 (Nat.le_of_ble_eq_true rfl) dX8_step_147 ⟨Nat.zero_le _, Nat.zero_le _⟩ (fun H locs hP hD hS => ?_)
                  cases hM
                  exact rt_v hx hb hr hlk hP hD hS rfl dX8_step_150
                · replace hM := if_t c24 hM
                  refine lv_aload_n hx hb dX8_step_139 rfl (lv_at hl 1 rfl) ?_
                  obtain ⟨r26, hcr26, hM⟩ := ob_use hM
                  refine cl_V (As := []) (rest := []) (wM_CXLN cI ad o_X r26 o_N o_T o_U o_O o_E o_Q o_V o_I o_C) [] ⟨hx, hb, hml, hown, hts⟩ (c_Model_readPlace l D cI sd ad o_N o_T o_U o_O o_E o_Q o_V o_I o_C o_X (o_X.1, r1.2) r26 hcr26) (cwV2 hts q1215 mvX8_readPlace rfl rfl ⟨(Nat.le_of_ble_eq_true rfl), (Nat.le_of_ble_eq_true rfl)⟩) hK hE hA hP hD hS 0 (T := TX8) (N := 48) (ci := 8) rfl rfl [0, 1, 2, 3, 4, 5] rfl (by decide) (mrgE rfl rfl) rfl rfl rfl rfl rfl hl.1 (Nat.le_of_ble_eq_true rfl) dX8_step_140 ⟨Nat.zero_le _, Nat.zero_le _⟩ (fun H locs hP hD hS => ?_)
                  refine lv_goto (tgt := 150) hx hb dX8_step_143 (by decide) ?_
                  cases hM
                  exact rt_v hx hb hr hlk hP hD hS rfl dX8_step_150
              · replace hM := if_f c23 hM
                refine lv_aload_n hx hb dX8_step_125 rfl (lv_at hl 1 rfl) ?_
                refine lv_iconst (v := 0) hx hb dX8_step_126 (by decide) ?_
                obtain ⟨r27, hcr27, hM⟩ := ob_use hM
                refine cl_V (As := [.int 0]) (rest := []) (wM_CXLN cI ad o_X r27 o_N o_T o_U o_O o_E o_Q o_V o_I o_C) [] ⟨hx, hb, hml, hown, hts⟩ (c_Model_readNumber l D cI sd ad o_C o_N o_T o_U o_O o_E o_Q o_V o_I o_X (o_X.1, r1.2) 0 r27 hcr27) (cwV2 hts q1167 mvX8_readNumber rfl rfl ⟨(Nat.le_of_ble_eq_true rfl), (Nat.le_of_ble_eq_true rfl)⟩) hK hE hA hP hD hS 0 (T := TX8) (N := 48) (ci := 8) rfl rfl [0, 5] rfl (by decide) rfl rfl rfl rfl rfl rfl hl.1 (Nat.le_of_ble_eq_true rfl) dX8_step_127 ⟨Nat.zero_le _, Nat.zero_le _⟩ (fun H locs hP hD hS => ?_)
                refine lv_goto (tgt := 150) hx hb dX8_step_130 (by decide) ?_
                cases hM
                exact rt_v hx hb hr hlk hP hD hS rfl dX8_step_150
            · replace hM := if_f c21 hM
              refine lv_aload_n hx hb dX8_step_111 rfl (lv_at hl 1 rfl) ?_
              obtain ⟨r28, hcr28, hM⟩ := ob_use hM
              refine cl_V (As := []) (rest := []) (wM_CXLN cI ad o_X r28.1 r28.2 o_T o_U o_O o_E o_Q o_V o_I o_C) [] ⟨hx, hb, hml, hown, hts⟩ (c_Model_readName l D cI sd ad o_T o_U o_O o_E o_Q o_V o_I o_C o_X (o_X.1, r1.2) o_N r28 hcr28) (cwV2 hts q1203 mvX8_readName rfl rfl ⟨(Nat.le_of_ble_eq_true rfl), (Nat.le_of_ble_eq_true rfl)⟩) hK hE hA hP hD hS 0 (T := TX8) (N := 48) (ci := 8) rfl rfl [0, 1, 2, 3, 4, 5, 6, 7] rfl (by decide) (mrgE rfl rfl) rfl rfl rfl rfl rfl hl.1 (Nat.le_of_ble_eq_true rfl) dX8_step_112 ⟨Nat.zero_le _, Nat.zero_le _⟩ (fun H locs hP hD hS => ?_)
              refine lv_goto (tgt := 150) hx hb dX8_step_115 (by decide) ?_
              cases hM
              exact rt_v hx hb hr hlk hP hD hS rfl dX8_step_150
          · replace hM := if_t c19 hM
            refine lv_aload_n hx hb dX8_step_81 rfl (lv_at hl 1 rfl) ?_
            refine lv_aload_n hx hb dX8_step_82 rfl (lv_at hl 1 rfl) ?_
            refine va_get (D := D) (ci := 8) (v := .int o_X.1) (C := RX8) (T := TX8) (N := 48) hx hb hts layX8 hown hK hP 0 rfl rfl 6 (by decide) (hts _ (inA q984)) (fun _ h9 => h9) rfl dX8_step_83 ?_
            refine lv_iconst (v := 1) hx hb dX8_step_86 (by decide) ?_
            refine lv_iadd hx hb dX8_step_87 ?_
            obtain ⟨r29, hcr29, hM⟩ := ob_use hM
            refine cl_V (As := [.int (o_X.1 + 1)]) (rest := []) (wM_CXLN cI ad o_X (o_X.1, r1.2) o_N o_T o_U o_O o_E o_Q o_V o_I o_C) (.int r29 :: []) ⟨hx, hb, hml, hown, hts⟩ (c_Model_at l D cI sd ad o_C (o_X.1, r1.2) o_N o_T o_U o_O o_E o_Q o_V o_I o_X (o_X.1 + 1) r29 hcr29) (cwV2 hts q1159 mvX8_at rfl rfl ⟨(Nat.le_of_ble_eq_true rfl), (Nat.le_of_ble_eq_true rfl)⟩) hK hE hA hP hD hS 0 (T := TX8) (N := 48) (ci := 8) rfl rfl [0, 5] rfl (by decide) rfl rfl rfl rfl rfl rfl hl.1 (Nat.le_of_ble_eq_true rfl) dX8_step_88 ⟨Nat.zero_le _, Nat.zero_le _⟩ (fun H locs hP hD hS => ?_)
            refine lv_bipush (v := 35) hx hb dX8_step_91 (by decide) ?_
            refine lv_icmp_ne (tgt := 104) hx hb dX8_step_93 (by decide) (fun c30 => ?_) (fun c30 => ?_)
            · replace hM := if_f c30 hM
              refine lv_iload_n hx hb dX8_step_104 rfl (lv_at hl 0 rfl) ?_
              obtain ⟨r31, hcr31, hM⟩ := ob_use hM
              refine cl_S (As := [.int r4]) (rest := []) (wM_CXLN cI ad o_X (o_X.1, r1.2) o_N o_T o_U o_O o_E o_Q o_V o_I o_C) (.int r31 :: []) ⟨hx, hb, hml, hown, hts⟩ (c_Model_isLetter l D cI sd ad r4 r31 hcr31) (cwS2 hts q1199 mvX8_isLetter rfl rfl ⟨(Nat.le_of_ble_eq_true rfl), (Nat.le_of_ble_eq_true rfl)⟩) hK hE hA hP hD hS [] rfl (by decide) rfl rfl rfl rfl rfl rfl hl.1 (Nat.le_of_ble_eq_true rfl) dX8_step_105 ⟨Nat.zero_le _, Nat.zero_le _⟩ (fun H locs hP hD hS => ?_)
              refine lv_if_eq (tgt := 118) hx hb dX8_step_108 (by decide) (fun c32 => ?_) (fun c32 => ?_)
              · replace hM := if_t c32 hM
                refine lv_iload_n hx hb dX8_step_118 rfl (lv_at hl 0 rfl) ?_
                obtain ⟨r33, hcr33, hM⟩ := ob_use hM
                refine cl_S (As := [.int r4]) (rest := []) (wM_CXLN cI ad o_X (o_X.1, r1.2) o_N o_T o_U o_O o_E o_Q o_V o_I o_C) (.int r33 :: []) ⟨hx, hb, hml, hown, hts⟩ (c_Model_isDigit l D cI sd ad r4 r33 hcr33) (cwS2 hts q1181 mvX8_isDigit rfl rfl ⟨(Nat.le_of_ble_eq_true rfl), (Nat.le_of_ble_eq_true rfl)⟩) hK hE hA hP hD hS [] rfl (by decide) rfl rfl rfl rfl rfl rfl hl.1 (Nat.le_of_ble_eq_true rfl) dX8_step_119 ⟨Nat.zero_le _, Nat.zero_le _⟩ (fun H locs hP hD hS => ?_)
                refine lv_if_eq (tgt := 133) hx hb dX8_step_122 (by decide) (fun c34 => ?_) (fun c34 => ?_)
                · replace hM := if_t c34 hM
                  refine lv_iload_n hx hb dX8_step_133 rfl (lv_at hl 0 rfl) ?_
                  refine lv_bipush (v := 37) hx hb dX8_step_134 (by decide) ?_
                  refine lv_icmp_ne (tgt := 146) hx hb dX8_step_136 (by decide) (fun c35 => ?_) (fun c35 => ?_)
                  · replace hM := if_f c35 hM
                    refine lv_aload_n hx hb dX8_step_146 rfl (lv_at hl 1 rfl) ?_
                    obtain ⟨r36, hcr36, hM⟩ := ob_use hM
                    refine cl_V (As := []) (rest := []) (wM_CXLN cI ad o_X r36 o_N o_T o_U o_O o_E o_Q o_V o_I o_C) [] ⟨hx, hb, hml, hown, hts⟩ (c_Model_readSign l D cI sd ad o_N o_T o_U o_O o_E o_Q o_V o_I o_C o_X (o_X.1, r1.2) r36 hcr36) (cwV2 hts q1221 mvX8_readSign rfl rfl ⟨(Nat.le_of_ble_eq_true rfl), (Nat.le_of_ble_eq_true rfl)⟩) hK hE hA hP hD hS 0 (T := TX8) (N := 48) (ci := 8) rfl rfl [0, 1, 2, 3, 4, 5] rfl (by decide) (mrgE rfl rfl) rfl rfl rfl rfl rfl hl.1 (Nat.le_of_ble_eq_true rfl) dX8_step_147 ⟨Nat.zero_le _, Nat.zero_le _⟩ (fun H locs hP hD hS => ?_)
                    cases hM
                    exact rt_v hx hb hr hlk hP hD hS rfl dX8_step_150
                  · replace hM := if_t c35 hM
                    refine lv_aload_n hx hb dX8_step_139 rfl (lv_at hl 1 rfl) ?_
                    obtain ⟨r37, hcr37, hM⟩ := ob_use hM
                    refine cl_V (As := []) (rest := []) (wM_CXLN cI ad o_X r37 o_N o_T o_U o_O o_E o_Q o_V o_I o_C) [] ⟨hx, hb, hml, hown, hts⟩ (c_Model_readPlace l D cI sd ad o_N o_T o_U o_O o_E o_Q o_V o_I o_C o_X (o_X.1, r1.2) r37 hcr37) (cwV2 hts q1215 mvX8_readPlace rfl rfl ⟨(Nat.le_of_ble_eq_true rfl), (Nat.le_of_ble_eq_true rfl)⟩) hK hE hA hP hD hS 0 (T := TX8) (N := 48) (ci := 8) rfl rfl [0, 1, 2, 3, 4, 5] rfl (by decide) (mrgE rfl rfl) rfl rfl rfl rfl rfl hl.1 (Nat.le_of_ble_eq_true rfl) dX8_step_140 ⟨Nat.zero_le _, Nat.zero_le _⟩ (fun H locs hP hD hS => ?_)
                    refine lv_goto (tgt := 150) hx hb dX8_step_143 (by decide) ?_
                    cases hM
                    exact rt_v hx hb hr hlk hP hD hS rfl dX8_step_150
                · replace hM := if_f c34 hM
                  refine lv_aload_n hx hb dX8_step_125 rfl (lv_at hl 1 rfl) ?_
                  refine lv_iconst (v := 0) hx hb dX8_step_126 (by decide) ?_
                  obtain ⟨r38, hcr38, hM⟩ := ob_use hM
                  refine cl_V (As := [.int 0]) (rest := []) (wM_CXLN cI ad o_X r38 o_N o_T o_U o_O o_E o_Q o_V o_I o_C) [] ⟨hx, hb, hml, hown, hts⟩ (c_Model_readNumber l D cI sd ad o_C o_N o_T o_U o_O o_E o_Q o_V o_I o_X (o_X.1, r1.2) 0 r38 hcr38) (cwV2 hts q1167 mvX8_readNumber rfl rfl ⟨(Nat.le_of_ble_eq_true rfl), (Nat.le_of_ble_eq_true rfl)⟩) hK hE hA hP hD hS 0 (T := TX8) (N := 48) (ci := 8) rfl rfl [0, 5] rfl (by decide) rfl rfl rfl rfl rfl rfl hl.1 (Nat.le_of_ble_eq_true rfl) dX8_step_127 ⟨Nat.zero_le _, Nat.zero_le _⟩ (fun H locs hP hD hS => ?_)
                  refine lv_goto (tgt := 150) hx hb dX8_step_130 (by decide) ?_
                  cases hM
                  exact rt_v hx hb hr hlk hP hD hS rfl dX8_step_150
              · replace hM := if_f c32 hM
                refine lv_aload_n hx hb dX8_step_111 rfl (lv_at hl 1 rfl) ?_
                obtain ⟨r39, hcr39, hM⟩ := ob_use hM
                refine cl_V (As := []) (rest := []) (wM_CXLN cI ad o_X r39.1 r39.2 o_T o_U o_O o_E o_Q o_V o_I o_C) [] ⟨hx, hb, hml, hown, hts⟩ (c_Model_readName l D cI sd ad o_T o_U o_O o_E o_Q o_V o_I o_C o_X (o_X.1, r1.2) o_N r39 hcr39) (cwV2 hts q1203 mvX8_readName rfl rfl ⟨(Nat.le_of_ble_eq_true rfl), (Nat.le_of_ble_eq_true rfl)⟩) hK hE hA hP hD hS 0 (T := TX8) (N := 48) (ci := 8) rfl rfl [0, 1, 2, 3, 4, 5, 6, 7] rfl (by decide) (mrgE rfl rfl) rfl rfl rfl rfl rfl hl.1 (Nat.le_of_ble_eq_true rfl) dX8_step_112 ⟨Nat.zero_le _, Nat.zero_le _⟩ (fun H locs hP hD hS => ?_)
                refine lv_goto (tgt := 150) hx hb dX8_step_115 (by decide) ?_
                cases hM
                exact rt_v hx hb hr hlk hP hD hS rfl dX8_step_150
            · replace hM := if_t c30 hM
              refine lv_aload_n hx hb dX8_step_96 rfl (lv_at hl 1 rfl) ?_
              refine lv_iconst (v := 1) hx hb dX8_step_97 (by decide) ?_
              obtain ⟨r40, hcr40, hM⟩ := ob_use hM
              refine cl_V (As := [.int 1]) (rest := []) (wM_CXLN cI ad o_X r40 o_N o_T o_U o_O o_E o_Q o_V o_I o_C) [] ⟨hx, hb, hml, hown, hts⟩ (c_Model_readNumber l D cI sd ad o_C o_N o_T o_U o_O o_E o_Q o_V o_I o_X (o_X.1, r1.2) 1 r40 hcr40) (cwV2 hts q1167 mvX8_readNumber rfl rfl ⟨(Nat.le_of_ble_eq_true rfl), (Nat.le_of_ble_eq_true rfl)⟩) hK hE hA hP hD hS 0 (T := TX8) (N := 48) (ci := 8) rfl rfl [0, 5] rfl (by decide) rfl rfl rfl rfl rfl rfl hl.1 (Nat.le_of_ble_eq_true rfl) dX8_step_98 ⟨Nat.zero_le _, Nat.zero_le _⟩ (fun H locs hP hD hS => ?_)
              refine lv_goto (tgt := 150) hx hb dX8_step_101 (by decide) ?_
              cases hM
              exact rt_v hx hb hr hlk hP hD hS rfl dX8_step_150
      · replace hM := if_t c5 hM
        refine lv_aload_n hx hb dX8_step_60 rfl (lv_at hl 1 rfl) ?_
        refine lv_bipush (v := 83) hx hb dX8_step_61 (by decide) ?_
        refine va_put (D := D) (ci := 8) (v := .int 83) (ty := .int) (C := RX8) (T := TX8) (N := 48) hx hb hts layX8 tyX8 tyX8_ok nmX8 hown hK hP hD hS 0 rfl rfl 7 (by decide) (hts _ (inA q985)) (fun _ h9 => h9) rfl (by decide +kernel) rfl rfl (Nat.le_of_ble_eq_true rfl) dX8_step_63 (fun H locs hP hD hS => ?_)
        have hP : va_P D vwCl (wM_CXLN cI ad o_X (o_X.1, 83, r1.2.2) o_N o_T o_U o_O o_E o_Q o_V o_I o_C) H := hP
        have hD : va_D A (wM_CXLN cI ad o_X (o_X.1, 83, r1.2.2) o_N o_T o_U o_O o_E o_Q o_V o_I o_C) := hD
        refine lv_goto (tgt := 150) hx hb dX8_step_66 (by decide) ?_
        cases hM
        exact rt_v hx hb hr hlk hP hD hS rfl dX8_step_150
    · replace hM := if_f c3 hM
      cases hM
      exact rt_v hx hb hr hlk hP hD hS rfl dX8_step_45
  · replace hM := if_f c2 hM
    refine lv_aload_n hx hb dX8_step_24 rfl (lv_at hl 0 rfl) ?_
    refine va_get (D := D) (ci := 8) (v := .int r1.2.2.2.1) (C := RX8) (T := TX8) (N := 48) hx hb hts layX8 hown hK hP 0 rfl rfl 9 (by decide) (hts _ (inA q987)) (fun _ h9 => h9) rfl dX8_step_25 ?_
    refine lv_goto (tgt := 35) hx hb dX8_step_28 (by decide) ?_
    refine va_put (D := D) (ci := 8) (v := .int r1.2.2.2.1) (ty := .int) (C := RX8) (T := TX8) (N := 48) hx hb hts layX8 tyX8 tyX8_ok nmX8 hown hK hP hD hS 0 rfl rfl 6 (by decide) (hts _ (inA q984)) (fun _ h9 => h9) rfl (by decide +kernel) rfl rfl (Nat.le_of_ble_eq_true rfl) dX8_step_35 (fun H locs hP hD hS => ?_)
    have hP : va_P D vwCl (wM_CXLN cI ad o_X (r1.2.2.2.1, r1.2) o_N o_T o_U o_O o_E o_Q o_V o_I o_C) H := hP
    have hD : va_D A (wM_CXLN cI ad o_X (r1.2.2.2.1, r1.2) o_N o_T o_U o_O o_E o_Q o_V o_I o_C) := hD
    refine lv_aload_n hx hb dX8_step_38 rfl (lv_at hl 0 rfl) ?_
    refine va_get (D := D) (ci := 8) (v := .int r1.2.2.2.2.2.1) (C := RX8) (T := TX8) (N := 48) hx hb hts layX8 hown hK hP 0 rfl rfl 11 (by decide) (hts _ (inA q989)) (fun _ h9 => h9) rfl dX8_step_39 ?_
    refine lv_if_le (tgt := 46) hx hb dX8_step_42 (by decide) (fun c41 => ?_) (fun c41 => ?_)
    · replace hM := if_t c41 hM
      refine lv_aload_n hx hb dX8_step_46 rfl (lv_at hl 0 rfl) ?_
      refine lv_aload_n hx hb dX8_step_47 rfl (lv_at hl 0 rfl) ?_
      refine va_get (D := D) (ci := 8) (v := .int r1.2.2.2.1) (C := RX8) (T := TX8) (N := 48) hx hb hts layX8 hown hK hP 0 rfl rfl 6 (by decide) (hts _ (inA q984)) (fun _ h9 => h9) rfl dX8_step_48 ?_
      obtain ⟨r42, hcr42, hM⟩ := ob_use hM
      refine cl_V (As := [.int r1.2.2.2.1]) (rest := []) (wM_CXLN cI ad o_X (r1.2.2.2.1, r1.2) o_N o_T o_U o_O o_E o_Q o_V o_I o_C) (.int r42 :: []) ⟨hx, hb, hml, hown, hts⟩ (c_Model_at l D cI sd ad o_C (r1.2.2.2.1, r1.2) o_N o_T o_U o_O o_E o_Q o_V o_I o_X r1.2.2.2.1 r42 hcr42) (cwV2 hts q1159 mvX8_at rfl rfl ⟨(Nat.le_of_ble_eq_true rfl), (Nat.le_of_ble_eq_true rfl)⟩) hK hE hA hP hD hS 0 (T := TX8) (N := 48) (ci := 8) rfl rfl [0, 5] rfl (by decide) rfl rfl rfl rfl rfl rfl hl.1 (Nat.le_of_ble_eq_true rfl) dX8_step_51 ⟨Nat.zero_le _, Nat.zero_le _⟩ (fun H locs hP hD hS => ?_)
      refine lv_istore_n (lv' := [(1, .int r42), (0, .ref (ad 100))]) hx hb dX8_step_54 rfl hl (by decide) rfl (fun ls hl => ?_)
      refine lv_iload_n hx hb dX8_step_55 rfl (lv_at hl 0 rfl) ?_
      refine lv_iconst (v := (-1)) hx hb dX8_step_56 (by decide) ?_
      refine lv_icmp_ne (tgt := 69) hx hb dX8_step_57 (by decide) (fun c43 => ?_) (fun c43 => ?_)
      · replace hM := if_f c43 hM
        refine lv_iload_n hx hb dX8_step_69 rfl (lv_at hl 0 rfl) ?_
        refine lv_bipush (v := 84) hx hb dX8_step_70 (by decide) ?_
        refine lv_icmp_eq (tgt := 81) hx hb dX8_step_72 (by decide) (fun c44 => ?_) (fun c44 => ?_)
        · replace hM := if_t c44 hM
          refine lv_aload_n hx hb dX8_step_81 rfl (lv_at hl 1 rfl) ?_
          refine lv_aload_n hx hb dX8_step_82 rfl (lv_at hl 1 rfl) ?_
          refine va_get (D := D) (ci := 8) (v := .int r1.2.2.2.1) (C := RX8) (T := TX8) (N := 48) hx hb hts layX8 hown hK hP 0 rfl rfl 6 (by decide) (hts _ (inA q984)) (fun _ h9 => h9) rfl dX8_step_83 ?_
          refine lv_iconst (v := 1) hx hb dX8_step_86 (by decide) ?_
          refine lv_iadd hx hb dX8_step_87 ?_
          obtain ⟨r45, hcr45, hM⟩ := ob_use hM
          refine cl_V (As := [.int (r1.2.2.2.1 + 1)]) (rest := []) (wM_CXLN cI ad o_X (r1.2.2.2.1, r1.2) o_N o_T o_U o_O o_E o_Q o_V o_I o_C) (.int r45 :: []) ⟨hx, hb, hml, hown, hts⟩ (c_Model_at l D cI sd ad o_C (r1.2.2.2.1, r1.2) o_N o_T o_U o_O o_E o_Q o_V o_I o_X (r1.2.2.2.1 + 1) r45 hcr45) (cwV2 hts q1159 mvX8_at rfl rfl ⟨(Nat.le_of_ble_eq_true rfl), (Nat.le_of_ble_eq_true rfl)⟩) hK hE hA hP hD hS 0 (T := TX8) (N := 48) (ci := 8) rfl rfl [0, 5] rfl (by decide) rfl rfl rfl rfl rfl rfl hl.1 (Nat.le_of_ble_eq_true rfl) dX8_step_88 ⟨Nat.zero_le _, Nat.zero_le _⟩ (fun H locs hP hD hS => ?_)
          refine lv_bipush (v := 35) hx hb dX8_step_91 (by decide) ?_
          refine lv_icmp_ne (tgt := 104) hx hb dX8_step_93 (by decide) (fun c46 => ?_) (fun c46 => ?_)
          · replace hM := if_f c46 hM
            refine lv_iload_n hx hb dX8_step_104 rfl (lv_at hl 0 rfl) ?_
            obtain ⟨r47, hcr47, hM⟩ := ob_use hM
            refine cl_S (As := [.int r42]) (rest := []) (wM_CXLN cI ad o_X (r1.2.2.2.1, r1.2) o_N o_T o_U o_O o_E o_Q o_V o_I o_C) (.int r47 :: []) ⟨hx, hb, hml, hown, hts⟩ (c_Model_isLetter l D cI sd ad r42 r47 hcr47) (cwS2 hts q1199 mvX8_isLetter rfl rfl ⟨(Nat.le_of_ble_eq_true rfl), (Nat.le_of_ble_eq_true rfl)⟩) hK hE hA hP hD hS [] rfl (by decide) rfl rfl rfl rfl rfl rfl hl.1 (Nat.le_of_ble_eq_true rfl) dX8_step_105 ⟨Nat.zero_le _, Nat.zero_le _⟩ (fun H locs hP hD hS => ?_)
            refine lv_if_eq (tgt := 118) hx hb dX8_step_108 (by decide) (fun c48 => ?_) (fun c48 => ?_)
            · replace hM := if_t c48 hM
              refine lv_iload_n hx hb dX8_step_118 rfl (lv_at hl 0 rfl) ?_
              obtain ⟨r49, hcr49, hM⟩ := ob_use hM
              refine cl_S (As := [.int r42]) (rest := []) (wM_CXLN cI ad o_X (r1.2.2.2.1, r1.2) o_N o_T o_U o_O o_E o_Q o_V o_I o_C) (.int r49 :: []) ⟨hx, hb, hml, hown, hts⟩ (c_Model_isDigit l D cI sd ad r42 r49 hcr49) (cwS2 hts q1181 mvX8_isDigit rfl rfl ⟨(Nat.le_of_ble_eq_true rfl), (Nat.le_of_ble_eq_true rfl)⟩) hK hE hA hP hD hS [] rfl (by decide) rfl rfl rfl rfl rfl rfl hl.1 (Nat.le_of_ble_eq_true rfl) dX8_step_119 ⟨Nat.zero_le _, Nat.zero_le _⟩ (fun H locs hP hD hS => ?_)
              refine lv_if_eq (tgt := 133) hx hb dX8_step_122 (by decide) (fun c50 => ?_) (fun c50 => ?_)
              · replace hM := if_t c50 hM
                refine lv_iload_n hx hb dX8_step_133 rfl (lv_at hl 0 rfl) ?_
                refine lv_bipush (v := 37) hx hb dX8_step_134 (by decide) ?_
                refine lv_icmp_ne (tgt := 146) hx hb dX8_step_136 (by decide) (fun c51 => ?_) (fun c51 => ?_)
                · replace hM := if_f c51 hM
                  refine lv_aload_n hx hb dX8_step_146 rfl (lv_at hl 1 rfl) ?_
                  obtain ⟨r52, hcr52, hM⟩ := ob_use hM
                  refine cl_V (As := []) (rest := []) (wM_CXLN cI ad o_X r52 o_N o_T o_U o_O o_E o_Q o_V o_I o_C) [] ⟨hx, hb, hml, hown, hts⟩ (c_Model_readSign l D cI sd ad o_N o_T o_U o_O o_E o_Q o_V o_I o_C o_X (r1.2.2.2.1, r1.2) r52 hcr52) (cwV2 hts q1221 mvX8_readSign rfl rfl ⟨(Nat.le_of_ble_eq_true rfl), (Nat.le_of_ble_eq_true rfl)⟩) hK hE hA hP hD hS 0 (T := TX8) (N := 48) (ci := 8) rfl rfl [0, 1, 2, 3, 4, 5] rfl (by decide) (mrgE rfl rfl) rfl rfl rfl rfl rfl hl.1 (Nat.le_of_ble_eq_true rfl) dX8_step_147 ⟨Nat.zero_le _, Nat.zero_le _⟩ (fun H locs hP hD hS => ?_)
                  cases hM
                  exact rt_v hx hb hr hlk hP hD hS rfl dX8_step_150
                · replace hM := if_t c51 hM
                  refine lv_aload_n hx hb dX8_step_139 rfl (lv_at hl 1 rfl) ?_
                  obtain ⟨r53, hcr53, hM⟩ := ob_use hM
                  refine cl_V (As := []) (rest := []) (wM_CXLN cI ad o_X r53 o_N o_T o_U o_O o_E o_Q o_V o_I o_C) [] ⟨hx, hb, hml, hown, hts⟩ (c_Model_readPlace l D cI sd ad o_N o_T o_U o_O o_E o_Q o_V o_I o_C o_X (r1.2.2.2.1, r1.2) r53 hcr53) (cwV2 hts q1215 mvX8_readPlace rfl rfl ⟨(Nat.le_of_ble_eq_true rfl), (Nat.le_of_ble_eq_true rfl)⟩) hK hE hA hP hD hS 0 (T := TX8) (N := 48) (ci := 8) rfl rfl [0, 1, 2, 3, 4, 5] rfl (by decide) (mrgE rfl rfl) rfl rfl rfl rfl rfl hl.1 (Nat.le_of_ble_eq_true rfl) dX8_step_140 ⟨Nat.zero_le _, Nat.zero_le _⟩ (fun H locs hP hD hS => ?_)
                  refine lv_goto (tgt := 150) hx hb dX8_step_143 (by decide) ?_
                  cases hM
                  exact rt_v hx hb hr hlk hP hD hS rfl dX8_step_150
              · replace hM := if_f c50 hM
                refine lv_aload_n hx hb dX8_step_125 rfl (lv_at hl 1 rfl) ?_
                refine lv_iconst (v := 0) hx hb dX8_step_126 (by decide) ?_
                obtain ⟨r54, hcr54, hM⟩ := ob_use hM
                refine cl_V (As := [.int 0]) (rest := []) (wM_CXLN cI ad o_X r54 o_N o_T o_U o_O o_E o_Q o_V o_I o_C) [] ⟨hx, hb, hml, hown, hts⟩ (c_Model_readNumber l D cI sd ad o_C o_N o_T o_U o_O o_E o_Q o_V o_I o_X (r1.2.2.2.1, r1.2) 0 r54 hcr54) (cwV2 hts q1167 mvX8_readNumber rfl rfl ⟨(Nat.le_of_ble_eq_true rfl), (Nat.le_of_ble_eq_true rfl)⟩) hK hE hA hP hD hS 0 (T := TX8) (N := 48) (ci := 8) rfl rfl [0, 5] rfl (by decide) rfl rfl rfl rfl rfl rfl hl.1 (Nat.le_of_ble_eq_true rfl) dX8_step_127 ⟨Nat.zero_le _, Nat.zero_le _⟩ (fun H locs hP hD hS => ?_)
                refine lv_goto (tgt := 150) hx hb dX8_step_130 (by decide) ?_
                cases hM
                exact rt_v hx hb hr hlk hP hD hS rfl dX8_step_150
            · replace hM := if_f c48 hM
              refine lv_aload_n hx hb dX8_step_111 rfl (lv_at hl 1 rfl) ?_
              obtain ⟨r55, hcr55, hM⟩ := ob_use hM
              refine cl_V (As := []) (rest := []) (wM_CXLN cI ad o_X r55.1 r55.2 o_T o_U o_O o_E o_Q o_V o_I o_C) [] ⟨hx, hb, hml, hown, hts⟩ (c_Model_readName l D cI sd ad o_T o_U o_O o_E o_Q o_V o_I o_C o_X (r1.2.2.2.1, r1.2) o_N r55 hcr55) (cwV2 hts q1203 mvX8_readName rfl rfl ⟨(Nat.le_of_ble_eq_true rfl), (Nat.le_of_ble_eq_true rfl)⟩) hK hE hA hP hD hS 0 (T := TX8) (N := 48) (ci := 8) rfl rfl [0, 1, 2, 3, 4, 5, 6, 7] rfl (by decide) (mrgE rfl rfl) rfl rfl rfl rfl rfl hl.1 (Nat.le_of_ble_eq_true rfl) dX8_step_112 ⟨Nat.zero_le _, Nat.zero_le _⟩ (fun H locs hP hD hS => ?_)
              refine lv_goto (tgt := 150) hx hb dX8_step_115 (by decide) ?_
              cases hM
              exact rt_v hx hb hr hlk hP hD hS rfl dX8_step_150
          · replace hM := if_t c46 hM
            refine lv_aload_n hx hb dX8_step_96 rfl (lv_at hl 1 rfl) ?_
            refine lv_iconst (v := 1) hx hb dX8_step_97 (by decide) ?_
            obtain ⟨r56, hcr56, hM⟩ := ob_use hM
            refine cl_V (As := [.int 1]) (rest := []) (wM_CXLN cI ad o_X r56 o_N o_T o_U o_O o_E o_Q o_V o_I o_C) [] ⟨hx, hb, hml, hown, hts⟩ (c_Model_readNumber l D cI sd ad o_C o_N o_T o_U o_O o_E o_Q o_V o_I o_X (r1.2.2.2.1, r1.2) 1 r56 hcr56) (cwV2 hts q1167 mvX8_readNumber rfl rfl ⟨(Nat.le_of_ble_eq_true rfl), (Nat.le_of_ble_eq_true rfl)⟩) hK hE hA hP hD hS 0 (T := TX8) (N := 48) (ci := 8) rfl rfl [0, 5] rfl (by decide) rfl rfl rfl rfl rfl rfl hl.1 (Nat.le_of_ble_eq_true rfl) dX8_step_98 ⟨Nat.zero_le _, Nat.zero_le _⟩ (fun H locs hP hD hS => ?_)
            refine lv_goto (tgt := 150) hx hb dX8_step_101 (by decide) ?_
            cases hM
            exact rt_v hx hb hr hlk hP hD hS rfl dX8_step_150
        · replace hM := if_f c44 hM
          refine lv_iload_n hx hb dX8_step_75 rfl (lv_at hl 0 rfl) ?_
          refine lv_bipush (v := 116) hx hb dX8_step_76 (by decide) ?_
          refine lv_icmp_ne (tgt := 104) hx hb dX8_step_78 (by decide) (fun c57 => ?_) (fun c57 => ?_)
          · replace hM := if_f c57 hM
            refine lv_iload_n hx hb dX8_step_104 rfl (lv_at hl 0 rfl) ?_
            obtain ⟨r58, hcr58, hM⟩ := ob_use hM
            refine cl_S (As := [.int r42]) (rest := []) (wM_CXLN cI ad o_X (r1.2.2.2.1, r1.2) o_N o_T o_U o_O o_E o_Q o_V o_I o_C) (.int r58 :: []) ⟨hx, hb, hml, hown, hts⟩ (c_Model_isLetter l D cI sd ad r42 r58 hcr58) (cwS2 hts q1199 mvX8_isLetter rfl rfl ⟨(Nat.le_of_ble_eq_true rfl), (Nat.le_of_ble_eq_true rfl)⟩) hK hE hA hP hD hS [] rfl (by decide) rfl rfl rfl rfl rfl rfl hl.1 (Nat.le_of_ble_eq_true rfl) dX8_step_105 ⟨Nat.zero_le _, Nat.zero_le _⟩ (fun H locs hP hD hS => ?_)
            refine lv_if_eq (tgt := 118) hx hb dX8_step_108 (by decide) (fun c59 => ?_) (fun c59 => ?_)
            · replace hM := if_t c59 hM
              refine lv_iload_n hx hb dX8_step_118 rfl (lv_at hl 0 rfl) ?_
              obtain ⟨r60, hcr60, hM⟩ := ob_use hM
              refine cl_S (As := [.int r42]) (rest := []) (wM_CXLN cI ad o_X (r1.2.2.2.1, r1.2) o_N o_T o_U o_O o_E o_Q o_V o_I o_C) (.int r60 :: []) ⟨hx, hb, hml, hown, hts⟩ (c_Model_isDigit l D cI sd ad r42 r60 hcr60) (cwS2 hts q1181 mvX8_isDigit rfl rfl ⟨(Nat.le_of_ble_eq_true rfl), (Nat.le_of_ble_eq_true rfl)⟩) hK hE hA hP hD hS [] rfl (by decide) rfl rfl rfl rfl rfl rfl hl.1 (Nat.le_of_ble_eq_true rfl) dX8_step_119 ⟨Nat.zero_le _, Nat.zero_le _⟩ (fun H locs hP hD hS => ?_)
              refine lv_if_eq (tgt := 133) hx hb dX8_step_122 (by decide) (fun c61 => ?_) (fun c61 => ?_)
              · replace hM := if_t c61 hM
                refine lv_iload_n hx hb dX8_step_133 rfl (lv_at hl 0 rfl) ?_
                refine lv_bipush (v := 37) hx hb dX8_step_134 (by decide) ?_
                refine lv_icmp_ne (tgt := 146) hx hb dX8_step_136 (by decide) (fun c62 => ?_) (fun c62 => ?_)
                · replace hM := if_f c62 hM
                  refine lv_aload_n hx hb dX8_step_146 rfl (lv_at hl 1 rfl) ?_
                  obtain ⟨r63, hcr63, hM⟩ := ob_use hM
                  refine cl_V (As := []) (rest := []) (wM_CXLN cI ad o_X r63 o_N o_T o_U o_O o_E o_Q o_V o_I o_C) [] ⟨hx, hb, hml, hown, hts⟩ (c_Model_readSign l D cI sd ad o_N o_T o_U o_O o_E o_Q o_V o_I o_C o_X (r1.2.2.2.1, r1.2) r63 hcr63) (cwV2 hts q1221 mvX8_readSign rfl rfl ⟨(Nat.le_of_ble_eq_true rfl), (Nat.le_of_ble_eq_true rfl)⟩) hK hE hA hP hD hS 0 (T := TX8) (N := 48) (ci := 8) rfl rfl [0, 1, 2, 3, 4, 5] rfl (by decide) (mrgE rfl rfl) rfl rfl rfl rfl rfl hl.1 (Nat.le_of_ble_eq_true rfl) dX8_step_147 ⟨Nat.zero_le _, Nat.zero_le _⟩ (fun H locs hP hD hS => ?_)
                  cases hM
                  exact rt_v hx hb hr hlk hP hD hS rfl dX8_step_150
                · replace hM := if_t c62 hM
                  refine lv_aload_n hx hb dX8_step_139 rfl (lv_at hl 1 rfl) ?_
                  obtain ⟨r64, hcr64, hM⟩ := ob_use hM
                  refine cl_V (As := []) (rest := []) (wM_CXLN cI ad o_X r64 o_N o_T o_U o_O o_E o_Q o_V o_I o_C) [] ⟨hx, hb, hml, hown, hts⟩ (c_Model_readPlace l D cI sd ad o_N o_T o_U o_O o_E o_Q o_V o_I o_C o_X (r1.2.2.2.1, r1.2) r64 hcr64) (cwV2 hts q1215 mvX8_readPlace rfl rfl ⟨(Nat.le_of_ble_eq_true rfl), (Nat.le_of_ble_eq_true rfl)⟩) hK hE hA hP hD hS 0 (T := TX8) (N := 48) (ci := 8) rfl rfl [0, 1, 2, 3, 4, 5] rfl (by decide) (mrgE rfl rfl) rfl rfl rfl rfl rfl hl.1 (Nat.le_of_ble_eq_true rfl) dX8_step_140 ⟨Nat.zero_le _, Nat.zero_le _⟩ (fun H locs hP hD hS => ?_)
                  refine lv_goto (tgt := 150) hx hb dX8_step_143 (by decide) ?_
                  cases hM
                  exact rt_v hx hb hr hlk hP hD hS rfl dX8_step_150
              · replace hM := if_f c61 hM
                refine lv_aload_n hx hb dX8_step_125 rfl (lv_at hl 1 rfl) ?_
                refine lv_iconst (v := 0) hx hb dX8_step_126 (by decide) ?_
                obtain ⟨r65, hcr65, hM⟩ := ob_use hM
                refine cl_V (As := [.int 0]) (rest := []) (wM_CXLN cI ad o_X r65 o_N o_T o_U o_O o_E o_Q o_V o_I o_C) [] ⟨hx, hb, hml, hown, hts⟩ (c_Model_readNumber l D cI sd ad o_C o_N o_T o_U o_O o_E o_Q o_V o_I o_X (r1.2.2.2.1, r1.2) 0 r65 hcr65) (cwV2 hts q1167 mvX8_readNumber rfl rfl ⟨(Nat.le_of_ble_eq_true rfl), (Nat.le_of_ble_eq_true rfl)⟩) hK hE hA hP hD hS 0 (T := TX8) (N := 48) (ci := 8) rfl rfl [0, 5] rfl (by decide) rfl rfl rfl rfl rfl rfl hl.1 (Nat.le_of_ble_eq_true rfl) dX8_step_127 ⟨Nat.zero_le _, Nat.zero_le _⟩ (fun H locs hP hD hS => ?_)
                refine lv_goto (tgt := 150) hx hb dX8_step_130 (by decide) ?_
                cases hM
                exact rt_v hx hb hr hlk hP hD hS rfl dX8_step_150
            · replace hM := if_f c59 hM
              refine lv_aload_n hx hb dX8_step_111 rfl (lv_at hl 1 rfl) ?_
              obtain ⟨r66, hcr66, hM⟩ := ob_use hM
              refine cl_V (As := []) (rest := []) (wM_CXLN cI ad o_X r66.1 r66.2 o_T o_U o_O o_E o_Q o_V o_I o_C) [] ⟨hx, hb, hml, hown, hts⟩ (c_Model_readName l D cI sd ad o_T o_U o_O o_E o_Q o_V o_I o_C o_X (r1.2.2.2.1, r1.2) o_N r66 hcr66) (cwV2 hts q1203 mvX8_readName rfl rfl ⟨(Nat.le_of_ble_eq_true rfl), (Nat.le_of_ble_eq_true rfl)⟩) hK hE hA hP hD hS 0 (T := TX8) (N := 48) (ci := 8) rfl rfl [0, 1, 2, 3, 4, 5, 6, 7] rfl (by decide) (mrgE rfl rfl) rfl rfl rfl rfl rfl hl.1 (Nat.le_of_ble_eq_true rfl) dX8_step_112 ⟨Nat.zero_le _, Nat.zero_le _⟩ (fun H locs hP hD hS => ?_)
              refine lv_goto (tgt := 150) hx hb dX8_step_115 (by decide) ?_
              cases hM
              exact rt_v hx hb hr hlk hP hD hS rfl dX8_step_150
          · replace hM := if_t c57 hM
            refine lv_aload_n hx hb dX8_step_81 rfl (lv_at hl 1 rfl) ?_
            refine lv_aload_n hx hb dX8_step_82 rfl (lv_at hl 1 rfl) ?_
            refine va_get (D := D) (ci := 8) (v := .int r1.2.2.2.1) (C := RX8) (T := TX8) (N := 48) hx hb hts layX8 hown hK hP 0 rfl rfl 6 (by decide) (hts _ (inA q984)) (fun _ h9 => h9) rfl dX8_step_83 ?_
            refine lv_iconst (v := 1) hx hb dX8_step_86 (by decide) ?_
            refine lv_iadd hx hb dX8_step_87 ?_
            obtain ⟨r67, hcr67, hM⟩ := ob_use hM
            refine cl_V (As := [.int (r1.2.2.2.1 + 1)]) (rest := []) (wM_CXLN cI ad o_X (r1.2.2.2.1, r1.2) o_N o_T o_U o_O o_E o_Q o_V o_I o_C) (.int r67 :: []) ⟨hx, hb, hml, hown, hts⟩ (c_Model_at l D cI sd ad o_C (r1.2.2.2.1, r1.2) o_N o_T o_U o_O o_E o_Q o_V o_I o_X (r1.2.2.2.1 + 1) r67 hcr67) (cwV2 hts q1159 mvX8_at rfl rfl ⟨(Nat.le_of_ble_eq_true rfl), (Nat.le_of_ble_eq_true rfl)⟩) hK hE hA hP hD hS 0 (T := TX8) (N := 48) (ci := 8) rfl rfl [0, 5] rfl (by decide) rfl rfl rfl rfl rfl rfl hl.1 (Nat.le_of_ble_eq_true rfl) dX8_step_88 ⟨Nat.zero_le _, Nat.zero_le _⟩ (fun H locs hP hD hS => ?_)
            refine lv_bipush (v := 35) hx hb dX8_step_91 (by decide) ?_
            refine lv_icmp_ne (tgt := 104) hx hb dX8_step_93 (by decide) (fun c68 => ?_) (fun c68 => ?_)
            · replace hM := if_f c68 hM
              refine lv_iload_n hx hb dX8_step_104 rfl (lv_at hl 0 rfl) ?_
              obtain ⟨r69, hcr69, hM⟩ := ob_use hM
              refine cl_S (As := [.int r42]) (rest := []) (wM_CXLN cI ad o_X (r1.2.2.2.1, r1.2) o_N o_T o_U o_O o_E o_Q o_V o_I o_C) (.int r69 :: []) ⟨hx, hb, hml, hown, hts⟩ (c_Model_isLetter l D cI sd ad r42 r69 hcr69) (cwS2 hts q1199 mvX8_isLetter rfl rfl ⟨(Nat.le_of_ble_eq_true rfl), (Nat.le_of_ble_eq_true rfl)⟩) hK hE hA hP hD hS [] rfl (by decide) rfl rfl rfl rfl rfl rfl hl.1 (Nat.le_of_ble_eq_true rfl) dX8_step_105 ⟨Nat.zero_le _, Nat.zero_le _⟩ (fun H locs hP hD hS => ?_)
              refine lv_if_eq (tgt := 118) hx hb dX8_step_108 (by decide) (fun c70 => ?_) (fun c70 => ?_)
              · replace hM := if_t c70 hM
                refine lv_iload_n hx hb dX8_step_118 rfl (lv_at hl 0 rfl) ?_
                obtain ⟨r71, hcr71, hM⟩ := ob_use hM
                refine cl_S (As := [.int r42]) (rest := []) (wM_CXLN cI ad o_X (r1.2.2.2.1, r1.2) o_N o_T o_U o_O o_E o_Q o_V o_I o_C) (.int r71 :: []) ⟨hx, hb, hml, hown, hts⟩ (c_Model_isDigit l D cI sd ad r42 r71 hcr71) (cwS2 hts q1181 mvX8_isDigit rfl rfl ⟨(Nat.le_of_ble_eq_true rfl), (Nat.le_of_ble_eq_true rfl)⟩) hK hE hA hP hD hS [] rfl (by decide) rfl rfl rfl rfl rfl rfl hl.1 (Nat.le_of_ble_eq_true rfl) dX8_step_119 ⟨Nat.zero_le _, Nat.zero_le _⟩ (fun H locs hP hD hS => ?_)
                refine lv_if_eq (tgt := 133) hx hb dX8_step_122 (by decide) (fun c72 => ?_) (fun c72 => ?_)
                · replace hM := if_t c72 hM
                  refine lv_iload_n hx hb dX8_step_133 rfl (lv_at hl 0 rfl) ?_
                  refine lv_bipush (v := 37) hx hb dX8_step_134 (by decide) ?_
                  refine lv_icmp_ne (tgt := 146) hx hb dX8_step_136 (by decide) (fun c73 => ?_) (fun c73 => ?_)
                  · replace hM := if_f c73 hM
                    refine lv_aload_n hx hb dX8_step_146 rfl (lv_at hl 1 rfl) ?_
                    obtain ⟨r74, hcr74, hM⟩ := ob_use hM
                    refine cl_V (As := []) (rest := []) (wM_CXLN cI ad o_X r74 o_N o_T o_U o_O o_E o_Q o_V o_I o_C) [] ⟨hx, hb, hml, hown, hts⟩ (c_Model_readSign l D cI sd ad o_N o_T o_U o_O o_E o_Q o_V o_I o_C o_X (r1.2.2.2.1, r1.2) r74 hcr74) (cwV2 hts q1221 mvX8_readSign rfl rfl ⟨(Nat.le_of_ble_eq_true rfl), (Nat.le_of_ble_eq_true rfl)⟩) hK hE hA hP hD hS 0 (T := TX8) (N := 48) (ci := 8) rfl rfl [0, 1, 2, 3, 4, 5] rfl (by decide) (mrgE rfl rfl) rfl rfl rfl rfl rfl hl.1 (Nat.le_of_ble_eq_true rfl) dX8_step_147 ⟨Nat.zero_le _, Nat.zero_le _⟩ (fun H locs hP hD hS => ?_)
                    cases hM
                    exact rt_v hx hb hr hlk hP hD hS rfl dX8_step_150
                  · replace hM := if_t c73 hM
                    refine lv_aload_n hx hb dX8_step_139 rfl (lv_at hl 1 rfl) ?_
                    obtain ⟨r75, hcr75, hM⟩ := ob_use hM
                    refine cl_V (As := []) (rest := []) (wM_CXLN cI ad o_X r75 o_N o_T o_U o_O o_E o_Q o_V o_I o_C) [] ⟨hx, hb, hml, hown, hts⟩ (c_Model_readPlace l D cI sd ad o_N o_T o_U o_O o_E o_Q o_V o_I o_C o_X (r1.2.2.2.1, r1.2) r75 hcr75) (cwV2 hts q1215 mvX8_readPlace rfl rfl ⟨(Nat.le_of_ble_eq_true rfl), (Nat.le_of_ble_eq_true rfl)⟩) hK hE hA hP hD hS 0 (T := TX8) (N := 48) (ci := 8) rfl rfl [0, 1, 2, 3, 4, 5] rfl (by decide) (mrgE rfl rfl) rfl rfl rfl rfl rfl hl.1 (Nat.le_of_ble_eq_true rfl) dX8_step_140 ⟨Nat.zero_le _, Nat.zero_le _⟩ (fun H locs hP hD hS => ?_)
                    refine lv_goto (tgt := 150) hx hb dX8_step_143 (by decide) ?_
                    cases hM
                    exact rt_v hx hb hr hlk hP hD hS rfl dX8_step_150
                · replace hM := if_f c72 hM
                  refine lv_aload_n hx hb dX8_step_125 rfl (lv_at hl 1 rfl) ?_
                  refine lv_iconst (v := 0) hx hb dX8_step_126 (by decide) ?_
                  obtain ⟨r76, hcr76, hM⟩ := ob_use hM
                  refine cl_V (As := [.int 0]) (rest := []) (wM_CXLN cI ad o_X r76 o_N o_T o_U o_O o_E o_Q o_V o_I o_C) [] ⟨hx, hb, hml, hown, hts⟩ (c_Model_readNumber l D cI sd ad o_C o_N o_T o_U o_O o_E o_Q o_V o_I o_X (r1.2.2.2.1, r1.2) 0 r76 hcr76) (cwV2 hts q1167 mvX8_readNumber rfl rfl ⟨(Nat.le_of_ble_eq_true rfl), (Nat.le_of_ble_eq_true rfl)⟩) hK hE hA hP hD hS 0 (T := TX8) (N := 48) (ci := 8) rfl rfl [0, 5] rfl (by decide) rfl rfl rfl rfl rfl rfl hl.1 (Nat.le_of_ble_eq_true rfl) dX8_step_127 ⟨Nat.zero_le _, Nat.zero_le _⟩ (fun H locs hP hD hS => ?_)
                  refine lv_goto (tgt := 150) hx hb dX8_step_130 (by decide) ?_
                  cases hM
                  exact rt_v hx hb hr hlk hP hD hS rfl dX8_step_150
              · replace hM := if_f c70 hM
                refine lv_aload_n hx hb dX8_step_111 rfl (lv_at hl 1 rfl) ?_
                obtain ⟨r77, hcr77, hM⟩ := ob_use hM
                refine cl_V (As := []) (rest := []) (wM_CXLN cI ad o_X r77.1 r77.2 o_T o_U o_O o_E o_Q o_V o_I o_C) [] ⟨hx, hb, hml, hown, hts⟩ (c_Model_readName l D cI sd ad o_T o_U o_O o_E o_Q o_V o_I o_C o_X (r1.2.2.2.1, r1.2) o_N r77 hcr77) (cwV2 hts q1203 mvX8_readName rfl rfl ⟨(Nat.le_of_ble_eq_true rfl), (Nat.le_of_ble_eq_true rfl)⟩) hK hE hA hP hD hS 0 (T := TX8) (N := 48) (ci := 8) rfl rfl [0, 1, 2, 3, 4, 5, 6, 7] rfl (by decide) (mrgE rfl rfl) rfl rfl rfl rfl rfl hl.1 (Nat.le_of_ble_eq_true rfl) dX8_step_112 ⟨Nat.zero_le _, Nat.zero_le _⟩ (fun H locs hP hD hS => ?_)
                refine lv_goto (tgt := 150) hx hb dX8_step_115 (by decide) ?_
                cases hM
                exact rt_v hx hb hr hlk hP hD hS rfl dX8_step_150
            · replace hM := if_t c68 hM
              refine lv_aload_n hx hb dX8_step_96 rfl (lv_at hl 1 rfl) ?_
              refine lv_iconst (v := 1) hx hb dX8_step_97 (by decide) ?_
              obtain ⟨r78, hcr78, hM⟩ := ob_use hM
              refine cl_V (As := [.int 1]) (rest := []) (wM_CXLN cI ad o_X r78 o_N o_T o_U o_O o_E o_Q o_V o_I o_C) [] ⟨hx, hb, hml, hown, hts⟩ (c_Model_readNumber l D cI sd ad o_C o_N o_T o_U o_O o_E o_Q o_V o_I o_X (r1.2.2.2.1, r1.2) 1 r78 hcr78) (cwV2 hts q1167 mvX8_readNumber rfl rfl ⟨(Nat.le_of_ble_eq_true rfl), (Nat.le_of_ble_eq_true rfl)⟩) hK hE hA hP hD hS 0 (T := TX8) (N := 48) (ci := 8) rfl rfl [0, 5] rfl (by decide) rfl rfl rfl rfl rfl rfl hl.1 (Nat.le_of_ble_eq_true rfl) dX8_step_98 ⟨Nat.zero_le _, Nat.zero_le _⟩ (fun H locs hP hD hS => ?_)
              refine lv_goto (tgt := 150) hx hb dX8_step_101 (by decide) ?_
              cases hM
              exact rt_v hx hb hr hlk hP hD hS rfl dX8_step_150
      · replace hM := if_t c43 hM
        refine lv_aload_n hx hb dX8_step_60 rfl (lv_at hl 1 rfl) ?_
        refine lv_bipush (v := 83) hx hb dX8_step_61 (by decide) ?_
        refine va_put (D := D) (ci := 8) (v := .int 83) (ty := .int) (C := RX8) (T := TX8) (N := 48) hx hb hts layX8 tyX8 tyX8_ok nmX8 hown hK hP hD hS 0 rfl rfl 7 (by decide) (hts _ (inA q985)) (fun _ h9 => h9) rfl (by decide +kernel) rfl rfl (Nat.le_of_ble_eq_true rfl) dX8_step_63 (fun H locs hP hD hS => ?_)
        have hP : va_P D vwCl (wM_CXLN cI ad o_X (r1.2.2.2.1, 83, r1.2.2) o_N o_T o_U o_O o_E o_Q o_V o_I o_C) H := hP
        have hD : va_D A (wM_CXLN cI ad o_X (r1.2.2.2.1, 83, r1.2.2) o_N o_T o_U o_O o_E o_Q o_V o_I o_C) := hD
        refine lv_goto (tgt := 150) hx hb dX8_step_66 (by decide) ?_
        cases hM
        exact rt_v hx hb hr hlk hP hD hS rfl dX8_step_150
    · replace hM := if_f c41 hM
      cases hM
      exact rt_v hx hb hr hlk hP hD hS rfl dX8_step_45

set_option maxHeartbeats 4000000 in
set_option maxRecDepth 100000 in
theorem c_Model_statements (l : Launch) (D : va_G) (cI : ClassId) (sd : Nat → Nat) (ad : Nat → Nat) (o_E : S_ME) (o_Q : S_MQ) (o_V : S_MV) (o_I : S_MI) (o_C : S_MC) (o_X : S_MX) (o_L : S_ML) (o_N : S_MN) (o_T : S_MT) (o_U : S_MU) (o_O : S_MO) (res : S_ML × S_MN × S_MT × S_MU × S_MO) (hM : f_Model_statements o_C o_X o_L o_N o_T o_U o_O = some res) : Ctr l D cI sd yX8_statements (wsM yX8_statements cX8_statements 1 (Option.none : Option Jvm.ClassFile.FieldType)) { frames := 6, cells := 0, slots := 0, locals := 132 } [.ref (ad 100)] (wM_CXLNTUO cI ad o_X o_L o_N o_T o_U o_O o_E o_Q o_V o_I o_C) (wM_CXLNTUO cI ad o_X res.1 res.2.1 res.2.2.1 res.2.2.2.1 res.2.2.2.2 o_E o_Q o_V o_I o_C) none := by
  refine Ctr.of (cc := cX8_statements) (maxL := 1) (own := RX8) (by decide +kernel) rfl rfl (Nat.le_of_ble_eq_true rfl) ?_
  intro p e s m below meth c A ls hx hb hr hml hown hts hlk hK hE hA hP hD hS hl
  have hl : lv_has ls 1 [(0, .ref (ad 100))] := hl
  unfold f_Model_statements at hM
  refine lv_aload_n hx hb dX8_statements_0 rfl (lv_at hl 0 rfl) ?_
  refine va_get (D := D) (ci := 8) (v := .int o_L.2.1) (C := RX8) (T := TX8) (N := 48) hx hb hts layX8 hown hK hP 0 rfl rfl 7 (by decide) (hts _ (inA q985)) (fun _ h9 => h9) rfl dX8_statements_1 ?_
  refine lv_bipush (v := 60) hx hb dX8_statements_4 (by decide) ?_
  refine lv_icmp_ne (tgt := 22) hx hb dX8_statements_6 (by decide) (fun c1 => ?_) (fun c1 => ?_)
  · replace hM := if_f c1 hM
    refine lv_aload_n hx hb dX8_statements_22 rfl (lv_at hl 0 rfl) ?_
    refine va_get (D := D) (ci := 8) (v := .int o_L.2.1) (C := RX8) (T := TX8) (N := 48) hx hb hts layX8 hown hK hP 0 rfl rfl 7 (by decide) (hts _ (inA q985)) (fun _ h9 => h9) rfl dX8_statements_23 ?_
    refine lv_bipush (v := 80) hx hb dX8_statements_26 (by decide) ?_
    refine lv_icmp_ne (tgt := 50) hx hb dX8_statements_28 (by decide) (fun c2 => ?_) (fun c2 => ?_)
    · replace hM := if_f c2 hM
      refine lv_aload_n hx hb dX8_statements_50 rfl (lv_at hl 0 rfl) ?_
      refine va_get (D := D) (ci := 8) (v := .int o_L.2.1) (C := RX8) (T := TX8) (N := 48) hx hb hts layX8 hown hK hP 0 rfl rfl 7 (by decide) (hts _ (inA q985)) (fun _ h9 => h9) rfl dX8_statements_51 ?_
      refine lv_bipush (v := 16) hx hb dX8_statements_54 (by decide) ?_
      refine lv_icmp_eq (tgt := 77) hx hb dX8_statements_56 (by decide) (fun c3 => ?_) (fun c3 => ?_)
      · replace hM := if_t c3 hM
        refine lv_aload_n hx hb dX8_statements_77 rfl (lv_at hl 0 rfl) ?_
        obtain ⟨r4, hcr4, hM⟩ := ob_use hM
        refine cl_V (As := []) (rest := []) (wM_CXLNTUO cI ad o_X r4.2.1 o_N o_T o_U r4.2.2 o_E o_Q o_V o_I o_C) (.int r4.1 :: []) ⟨hx, hb, hml, hown, hts⟩ (c_Model_opens l D cI sd ad o_C o_X o_N o_T o_U o_E o_Q o_V o_I o_L o_O r4 hcr4) (cwV2 hts q1321 mvX8_opens rfl rfl ⟨(Nat.le_of_ble_eq_true rfl), (Nat.le_of_ble_eq_true rfl)⟩) hK hE hA hP hD hS 0 (T := TX8) (N := 48) (ci := 8) rfl rfl [0] rfl (by decide) rfl rfl rfl rfl rfl rfl hl.1 (Nat.le_of_ble_eq_true rfl) dX8_statements_78 ⟨Nat.zero_le _, Nat.zero_le _⟩ (fun H locs hP hD hS => ?_)
        refine lv_if_eq (tgt := 146) hx hb dX8_statements_81 (by decide) (fun c5 => ?_) (fun c5 => ?_)
        · replace hM := if_t c5 hM
          cases hM
          exact rt_v hx hb hr hlk hP hD hS rfl dX8_statements_146
        · replace hM := if_f c5 hM
          refine lv_aload_n hx hb dX8_statements_84 rfl (lv_at hl 0 rfl) ?_
          obtain ⟨r6, hcr6, hM⟩ := ob_use hM
          refine cl_V (As := []) (rest := []) (wM_CXLNTUO cI ad o_X r6.1 r6.2.1 r6.2.2.1 r6.2.2.2 r4.2.2 o_E o_Q o_V o_I o_C) [] ⟨hx, hb, hml, hown, hts⟩ (c_Model_compound l D cI sd ad r4.2.2 o_E o_Q o_V o_I o_C o_X r4.2.1 o_N o_T o_U r6 hcr6) (cwV2 hts q1325 mvX8_compound rfl rfl ⟨(Nat.le_of_ble_eq_true rfl), (Nat.le_of_ble_eq_true rfl)⟩) hK hE hA hP hD hS 0 (T := TX8) (N := 48) (ci := 8) rfl rfl [0, 1, 2, 3, 4, 5, 6, 7, 8, 9, 10, 11, 12, 13, 14, 15] (rng_hi (n := 16) rfl rfl) (by decide) (rng_rep (n := 16) rfl rfl rfl) rfl rfl rfl rfl rfl hl.1 (Nat.le_of_ble_eq_true rfl) dX8_statements_85 ⟨Nat.zero_le _, Nat.zero_le _⟩ (fun H locs hP hD hS => ?_)
          refine lv_goto (tgt := 146) hx hb dX8_statements_88 (by decide) ?_
          cases hM
          exact rt_v hx hb hr hlk hP hD hS rfl dX8_statements_146
      · replace hM := if_f c3 hM
        refine lv_aload_n hx hb dX8_statements_59 rfl (lv_at hl 0 rfl) ?_
        refine va_get (D := D) (ci := 8) (v := .int o_L.2.1) (C := RX8) (T := TX8) (N := 48) hx hb hts layX8 hown hK hP 0 rfl rfl 7 (by decide) (hts _ (inA q985)) (fun _ h9 => h9) rfl dX8_statements_60 ?_
        refine lv_bipush (v := 21) hx hb dX8_statements_63 (by decide) ?_
        refine lv_icmp_eq (tgt := 77) hx hb dX8_statements_65 (by decide) (fun c7 => ?_) (fun c7 => ?_)
        · replace hM := if_t c7 hM
          refine lv_aload_n hx hb dX8_statements_77 rfl (lv_at hl 0 rfl) ?_
          obtain ⟨r8, hcr8, hM⟩ := ob_use hM
          refine cl_V (As := []) (rest := []) (wM_CXLNTUO cI ad o_X r8.2.1 o_N o_T o_U r8.2.2 o_E o_Q o_V o_I o_C) (.int r8.1 :: []) ⟨hx, hb, hml, hown, hts⟩ (c_Model_opens l D cI sd ad o_C o_X o_N o_T o_U o_E o_Q o_V o_I o_L o_O r8 hcr8) (cwV2 hts q1321 mvX8_opens rfl rfl ⟨(Nat.le_of_ble_eq_true rfl), (Nat.le_of_ble_eq_true rfl)⟩) hK hE hA hP hD hS 0 (T := TX8) (N := 48) (ci := 8) rfl rfl [0] rfl (by decide) rfl rfl rfl rfl rfl rfl hl.1 (Nat.le_of_ble_eq_true rfl) dX8_statements_78 ⟨Nat.zero_le _, Nat.zero_le _⟩ (fun H locs hP hD hS => ?_)
          refine lv_if_eq (tgt := 146) hx hb dX8_statements_81 (by decide) (fun c9 => ?_) (fun c9 => ?_)
          · replace hM := if_t c9 hM
            cases hM
            exact rt_v hx hb hr hlk hP hD hS rfl dX8_statements_146
          · replace hM := if_f c9 hM
            refine lv_aload_n hx hb dX8_statements_84 rfl (lv_at hl 0 rfl) ?_
            obtain ⟨r10, hcr10, hM⟩ := ob_use hM
            refine cl_V (As := []) (rest := []) (wM_CXLNTUO cI ad o_X r10.1 r10.2.1 r10.2.2.1 r10.2.2.2 r8.2.2 o_E o_Q o_V o_I o_C) [] ⟨hx, hb, hml, hown, hts⟩ (c_Model_compound l D cI sd ad r8.2.2 o_E o_Q o_V o_I o_C o_X r8.2.1 o_N o_T o_U r10 hcr10) (cwV2 hts q1325 mvX8_compound rfl rfl ⟨(Nat.le_of_ble_eq_true rfl), (Nat.le_of_ble_eq_true rfl)⟩) hK hE hA hP hD hS 0 (T := TX8) (N := 48) (ci := 8) rfl rfl [0, 1, 2, 3, 4, 5, 6, 7, 8, 9, 10, 11, 12, 13, 14, 15] (rng_hi (n := 16) rfl rfl) (by decide) (rng_rep (n := 16) rfl rfl rfl) rfl rfl rfl rfl rfl hl.1 (Nat.le_of_ble_eq_true rfl) dX8_statements_85 ⟨Nat.zero_le _, Nat.zero_le _⟩ (fun H locs hP hD hS => ?_)
            refine lv_goto (tgt := 146) hx hb dX8_statements_88 (by decide) ?_
            cases hM
            exact rt_v hx hb hr hlk hP hD hS rfl dX8_statements_146
        · replace hM := if_f c7 hM
          refine lv_aload_n hx hb dX8_statements_68 rfl (lv_at hl 0 rfl) ?_
          refine va_get (D := D) (ci := 8) (v := .int o_L.2.1) (C := RX8) (T := TX8) (N := 48) hx hb hts layX8 hown hK hP 0 rfl rfl 7 (by decide) (hts _ (inA q985)) (fun _ h9 => h9) rfl dX8_statements_69 ?_
          refine lv_bipush (v := 23) hx hb dX8_statements_72 (by decide) ?_
          refine lv_icmp_ne (tgt := 91) hx hb dX8_statements_74 (by decide) (fun c11 => ?_) (fun c11 => ?_)
          · replace hM := if_f c11 hM
            refine lv_aload_n hx hb dX8_statements_91 rfl (lv_at hl 0 rfl) ?_
            refine va_get (D := D) (ci := 8) (v := .int o_L.2.1) (C := RX8) (T := TX8) (N := 48) hx hb hts layX8 hown hK hP 0 rfl rfl 7 (by decide) (hts _ (inA q985)) (fun _ h9 => h9) rfl dX8_statements_92 ?_
            refine lv_bipush (v := 28) hx hb dX8_statements_95 (by decide) ?_
            refine lv_icmp_eq (tgt := 109) hx hb dX8_statements_97 (by decide) (fun c12 => ?_) (fun c12 => ?_)
            · replace hM := if_t c12 hM
              refine lv_aload_n hx hb dX8_statements_109 rfl (lv_at hl 0 rfl) ?_
              refine lv_aload_n hx hb dX8_statements_110 rfl (lv_at hl 0 rfl) ?_
              refine va_get (D := D) (ci := 8) (v := .int o_L.2.1) (C := RX8) (T := TX8) (N := 48) hx hb hts layX8 hown hK hP 0 rfl rfl 7 (by decide) (hts _ (inA q985)) (fun _ h9 => h9) rfl dX8_statements_111 ?_
              refine lv_bipush (v := 28) hx hb dX8_statements_114 (by decide) ?_
              refine lv_icmp_ne (tgt := 124) hx hb dX8_statements_116 (by decide) (fun c13 => ?_) (fun c13 => ?_)
              · replace hM := if_f c13 hM
                refine lv_bipush (v := 21) hx hb dX8_statements_124 (by decide) ?_
                refine lv_aload_n hx hb dX8_statements_126 rfl (lv_at hl 0 rfl) ?_
                refine va_get (D := D) (ci := 8) (v := .int o_L.1) (C := RX8) (T := TX8) (N := 48) hx hb hts layX8 hown hK hP 0 rfl rfl 6 (by decide) (hts _ (inA q984)) (fun _ h9 => h9) rfl dX8_statements_127 ?_
                refine lv_iconst (v := 0) hx hb dX8_statements_130 (by decide) ?_
                obtain ⟨r14, hcr14, hM⟩ := ob_use hM
                refine cl_V (As := [.int 21, .int o_L.1, .int 0]) (rest := []) (wM_CXLNTUO cI ad o_X o_L o_N r14 o_U o_O o_E o_Q o_V o_I o_C) [] ⟨hx, hb, hml, hown, hts⟩ (c_Model_leaf l D cI sd ad o_C o_X o_L o_N o_U o_O o_E o_Q o_V o_I o_T 21 o_L.1 0 r14 hcr14) (cwV2 hts q1277 mvX8_leaf rfl rfl ⟨(Nat.le_of_ble_eq_true rfl), (Nat.le_of_ble_eq_true rfl)⟩) hK hE hA hP hD hS 0 (T := TX8) (N := 48) (ci := 8) rfl rfl [0, 8, 9, 10, 11, 12, 13, 14] rfl (by decide) (mrgE rfl rfl) rfl rfl rfl rfl rfl hl.1 (Nat.le_of_ble_eq_true rfl) dX8_statements_131 ⟨Nat.zero_le _, Nat.zero_le _⟩ (fun H locs hP hD hS => ?_)
                refine lv_aload_n hx hb dX8_statements_134 rfl (lv_at hl 0 rfl) ?_
                refine lv_bipush (v := 115) hx hb dX8_statements_135 (by decide) ?_
                refine lv_bipush (v := 60) hx hb dX8_statements_137 (by decide) ?_
                obtain ⟨r15, hcr15, hM⟩ := ob_use hM
                refine cl_V (As := [.int 115, .int 60]) (rest := []) (wM_CXLNTUO cI ad o_X o_L o_N r14 r15 o_O o_E o_Q o_V o_I o_C) [] ⟨hx, hb, hml, hown, hts⟩ (c_Model_push2 l D cI sd ad o_C o_X o_L o_N r14 o_O o_E o_Q o_V o_I o_U 115 60 r15 hcr15) (cwV2 hts q1257 mvX8_push2 rfl rfl ⟨(Nat.le_of_ble_eq_true rfl), (Nat.le_of_ble_eq_true rfl)⟩) hK hE hA hP hD hS 0 (T := TX8) (N := 48) (ci := 8) rfl rfl [0, 15] rfl (by decide) rfl rfl rfl rfl rfl rfl hl.1 (Nat.le_of_ble_eq_true rfl) dX8_statements_139 ⟨Nat.zero_le _, Nat.zero_le _⟩ (fun H locs hP hD hS => ?_)
                refine lv_aload_n hx hb dX8_statements_142 rfl (lv_at hl 0 rfl) ?_
                obtain ⟨r16, hcr16, hM⟩ := ob_use hM
                refine cl_V (As := []) (rest := []) (wM_CXLNTUO cI ad o_X r16.1 r16.2 r14 r15 o_O o_E o_Q o_V o_I o_C) [] ⟨hx, hb, hml, hown, hts⟩ (c_Model_step l D cI sd ad r14 r15 o_O o_E o_Q o_V o_I o_C o_X o_L o_N r16 hcr16) (cwV2 hts q1151 mvX8_step rfl rfl ⟨(Nat.le_of_ble_eq_true rfl), (Nat.le_of_ble_eq_true rfl)⟩) hK hE hA hP hD hS 0 (T := TX8) (N := 48) (ci := 8) rfl rfl [0, 1, 2, 3, 4, 5, 6, 7] rfl (by decide) (mrgE rfl rfl) rfl rfl rfl rfl rfl hl.1 (Nat.le_of_ble_eq_true rfl) dX8_statements_143 ⟨Nat.zero_le _, Nat.zero_le _⟩ (fun H locs hP hD hS => ?_)
                cases hM
                exact rt_v hx hb hr hlk hP hD hS rfl dX8_statements_146
              · replace hM := if_t c13 hM
                refine lv_bipush (v := 20) hx hb dX8_statements_119 (by decide) ?_
                refine lv_goto (tgt := 126) hx hb dX8_statements_121 (by decide) ?_
                refine lv_aload_n hx hb dX8_statements_126 rfl (lv_at hl 0 rfl) ?_
                refine va_get (D := D) (ci := 8) (v := .int o_L.1) (C := RX8) (T := TX8) (N := 48) hx hb hts layX8 hown hK hP 0 rfl rfl 6 (by decide) (hts _ (inA q984)) (fun _ h9 => h9) rfl dX8_statements_127 ?_
                refine lv_iconst (v := 0) hx hb dX8_statements_130 (by decide) ?_
                obtain ⟨r17, hcr17, hM⟩ := ob_use hM
                refine cl_V (As := [.int 20, .int o_L.1, .int 0]) (rest := []) (wM_CXLNTUO cI ad o_X o_L o_N r17 o_U o_O o_E o_Q o_V o_I o_C) [] ⟨hx, hb, hml, hown, hts⟩ (c_Model_leaf l D cI sd ad o_C o_X o_L o_N o_U o_O o_E o_Q o_V o_I o_T 20 o_L.1 0 r17 hcr17) (cwV2 hts q1277 mvX8_leaf rfl rfl ⟨(Nat.le_of_ble_eq_true rfl), (Nat.le_of_ble_eq_true rfl)⟩) hK hE hA hP hD hS 0 (T := TX8) (N := 48) (ci := 8) rfl rfl [0, 8, 9, 10, 11, 12, 13, 14] rfl (by decide) (mrgE rfl rfl) rfl rfl rfl rfl rfl hl.1 (Nat.le_of_ble_eq_true rfl) dX8_statements_131 ⟨Nat.zero_le _, Nat.zero_le _⟩ (fun H locs hP hD hS => ?_)
                refine lv_aload_n hx hb dX8_statements_134 rfl (lv_at hl 0 rfl) ?_
                refine lv_bipush (v := 115) hx hb dX8_statements_135 (by decide) ?_
                refine lv_bipush (v := 60) hx hb dX8_statements_137 (by decide) ?_
                obtain ⟨r18, hcr18, hM⟩ := ob_use hM
                refine cl_V (As := [.int 115, .int 60]) (rest := []) (wM_CXLNTUO cI ad o_X o_L o_N r17 r18 o_O o_E o_Q o_V o_I o_C) [] ⟨hx, hb, hml, hown, hts⟩ (c_Model_push2 l D cI sd ad o_C o_X o_L o_N r17 o_O o_E o_Q o_V o_I o_U 115 60 r18 hcr18) (cwV2 hts q1257 mvX8_push2 rfl rfl ⟨(Nat.le_of_ble_eq_true rfl), (Nat.le_of_ble_eq_true rfl)⟩) hK hE hA hP hD hS 0 (T := TX8) (N := 48) (ci := 8) rfl rfl [0, 15] rfl (by decide) rfl rfl rfl rfl rfl rfl hl.1 (Nat.le_of_ble_eq_true rfl) dX8_statements_139 ⟨Nat.zero_le _, Nat.zero_le _⟩ (fun H locs hP hD hS => ?_)
                refine lv_aload_n hx hb dX8_statements_142 rfl (lv_at hl 0 rfl) ?_
                obtain ⟨r19, hcr19, hM⟩ := ob_use hM
                refine cl_V (As := []) (rest := []) (wM_CXLNTUO cI ad o_X r19.1 r19.2 r17 r18 o_O o_E o_Q o_V o_I o_C) [] ⟨hx, hb, hml, hown, hts⟩ (c_Model_step l D cI sd ad r17 r18 o_O o_E o_Q o_V o_I o_C o_X o_L o_N r19 hcr19) (cwV2 hts q1151 mvX8_step rfl rfl ⟨(Nat.le_of_ble_eq_true rfl), (Nat.le_of_ble_eq_true rfl)⟩) hK hE hA hP hD hS 0 (T := TX8) (N := 48) (ci := 8) rfl rfl [0, 1, 2, 3, 4, 5, 6, 7] rfl (by decide) (mrgE rfl rfl) rfl rfl rfl rfl rfl hl.1 (Nat.le_of_ble_eq_true rfl) dX8_statements_143 ⟨Nat.zero_le _, Nat.zero_le _⟩ (fun H locs hP hD hS => ?_)
                cases hM
                exact rt_v hx hb hr hlk hP hD hS rfl dX8_statements_146
            · replace hM := if_f c12 hM
              refine lv_aload_n hx hb dX8_statements_100 rfl (lv_at hl 0 rfl) ?_
              refine va_get (D := D) (ci := 8) (v := .int o_L.2.1) (C := RX8) (T := TX8) (N := 48) hx hb hts layX8 hown hK hP 0 rfl rfl 7 (by decide) (hts _ (inA q985)) (fun _ h9 => h9) rfl dX8_statements_101 ?_
              refine lv_bipush (v := 29) hx hb dX8_statements_104 (by decide) ?_
              refine lv_icmp_ne (tgt := 146) hx hb dX8_statements_106 (by decide) (fun c20 => ?_) (fun c20 => ?_)
              · replace hM := if_f c20 hM
                cases hM
                exact rt_v hx hb hr hlk hP hD hS rfl dX8_statements_146
              · replace hM := if_t c20 hM
                refine lv_aload_n hx hb dX8_statements_109 rfl (lv_at hl 0 rfl) ?_
                refine lv_aload_n hx hb dX8_statements_110 rfl (lv_at hl 0 rfl) ?_
                refine va_get (D := D) (ci := 8) (v := .int o_L.2.1) (C := RX8) (T := TX8) (N := 48) hx hb hts layX8 hown hK hP 0 rfl rfl 7 (by decide) (hts _ (inA q985)) (fun _ h9 => h9) rfl dX8_statements_111 ?_
                refine lv_bipush (v := 28) hx hb dX8_statements_114 (by decide) ?_
                refine lv_icmp_ne (tgt := 124) hx hb dX8_statements_116 (by decide) (fun c21 => ?_) (fun c21 => ?_)
                · replace hM := if_f c21 hM
                  refine lv_bipush (v := 21) hx hb dX8_statements_124 (by decide) ?_
                  refine lv_aload_n hx hb dX8_statements_126 rfl (lv_at hl 0 rfl) ?_
                  refine va_get (D := D) (ci := 8) (v := .int o_L.1) (C := RX8) (T := TX8) (N := 48) hx hb hts layX8 hown hK hP 0 rfl rfl 6 (by decide) (hts _ (inA q984)) (fun _ h9 => h9) rfl dX8_statements_127 ?_
                  refine lv_iconst (v := 0) hx hb dX8_statements_130 (by decide) ?_
                  obtain ⟨r22, hcr22, hM⟩ := ob_use hM
                  refine cl_V (As := [.int 21, .int o_L.1, .int 0]) (rest := []) (wM_CXLNTUO cI ad o_X o_L o_N r22 o_U o_O o_E o_Q o_V o_I o_C) [] ⟨hx, hb, hml, hown, hts⟩ (c_Model_leaf l D cI sd ad o_C o_X o_L o_N o_U o_O o_E o_Q o_V o_I o_T 21 o_L.1 0 r22 hcr22) (cwV2 hts q1277 mvX8_leaf rfl rfl ⟨(Nat.le_of_ble_eq_true rfl), (Nat.le_of_ble_eq_true rfl)⟩) hK hE hA hP hD hS 0 (T := TX8) (N := 48) (ci := 8) rfl rfl [0, 8, 9, 10, 11, 12, 13, 14] rfl (by decide) (mrgE rfl rfl) rfl rfl rfl rfl rfl hl.1 (Nat.le_of_ble_eq_true rfl) dX8_statements_131 ⟨Nat.zero_le _, Nat.zero_le _⟩ (fun H locs hP hD hS => ?_)
                  refine lv_aload_n hx hb dX8_statements_134 rfl (lv_at hl 0 rfl) ?_
                  refine lv_bipush (v := 115) hx hb dX8_statements_135 (by decide) ?_
                  refine lv_bipush (v := 60) hx hb dX8_statements_137 (by decide) ?_
                  obtain ⟨r23, hcr23, hM⟩ := ob_use hM
                  refine cl_V (As := [.int 115, .int 60]) (rest := []) (wM_CXLNTUO cI ad o_X o_L o_N r22 r23 o_O o_E o_Q o_V o_I o_C) [] ⟨hx, hb, hml, hown, hts⟩ (c_Model_push2 l D cI sd ad o_C o_X o_L o_N r22 o_O o_E o_Q o_V o_I o_U 115 60 r23 hcr23) (cwV2 hts q1257 mvX8_push2 rfl rfl ⟨(Nat.le_of_ble_eq_true rfl), (Nat.le_of_ble_eq_true rfl)⟩) hK hE hA hP hD hS 0 (T := TX8) (N := 48) (ci := 8) rfl rfl [0, 15] rfl (by decide) rfl rfl rfl rfl rfl rfl hl.1 (Nat.le_of_ble_eq_true rfl) dX8_statements_139 ⟨Nat.zero_le _, Nat.zero_le _⟩ (fun H locs hP hD hS => ?_)
                  refine lv_aload_n hx hb dX8_statements_142 rfl (lv_at hl 0 rfl) ?_
                  obtain ⟨r24, hcr24, hM⟩ := ob_use hM
                  refine cl_V (As := []) (rest := []) (wM_CXLNTUO cI ad o_X r24.1 r24.2 r22 r23 o_O o_E o_Q o_V o_I o_C) [] ⟨hx, hb, hml, hown, hts⟩ (c_Model_step l D cI sd ad r22 r23 o_O o_E o_Q o_V o_I o_C o_X o_L o_N r24 hcr24) (cwV2 hts q1151 mvX8_step rfl rfl ⟨(Nat.le_of_ble_eq_true rfl), (Nat.le_of_ble_eq_true rfl)⟩) hK hE hA hP hD hS 0 (T := TX8) (N := 48) (ci := 8) rfl rfl [0, 1, 2, 3, 4, 5, 6, 7] rfl (by decide) (mrgE rfl rfl) rfl rfl rfl rfl rfl hl.1 (Nat.le_of_ble_eq_true rfl) dX8_statements_143 ⟨Nat.zero_le _, Nat.zero_le _⟩ (fun H locs hP hD hS => ?_)
                  cases hM
                  exact rt_v hx hb hr hlk hP hD hS rfl dX8_statements_146
                · replace hM := if_t c21 hM
                  refine lv_bipush (v := 20) hx hb dX8_statements_119 (by decide) ?_
                  refine lv_goto (tgt := 126) hx hb dX8_statements_121 (by decide) ?_
                  refine lv_aload_n hx hb dX8_statements_126 rfl (lv_at hl 0 rfl) ?_
                  refine va_get (D := D) (ci := 8) (v := .int o_L.1) (C := RX8) (T := TX8) (N := 48) hx hb hts layX8 hown hK hP 0 rfl rfl 6 (by decide) (hts _ (inA q984)) (fun _ h9 => h9) rfl dX8_statements_127 ?_
                  refine lv_iconst (v := 0) hx hb dX8_statements_130 (by decide) ?_
                  obtain ⟨r25, hcr25, hM⟩ := ob_use hM
                  refine cl_V (As := [.int 20, .int o_L.1, .int 0]) (rest := []) (wM_CXLNTUO cI ad o_X o_L o_N r25 o_U o_O o_E o_Q o_V o_I o_C) [] ⟨hx, hb, hml, hown, hts⟩ (c_Model_leaf l D cI sd ad o_C o_X o_L o_N o_U o_O o_E o_Q o_V o_I o_T 20 o_L.1 0 r25 hcr25) (cwV2 hts q1277 mvX8_leaf rfl rfl ⟨(Nat.le_of_ble_eq_true rfl), (Nat.le_of_ble_eq_true rfl)⟩) hK hE hA hP hD hS 0 (T := TX8) (N := 48) (ci := 8) rfl rfl [0, 8, 9, 10, 11, 12, 13, 14] rfl (by decide) (mrgE rfl rfl) rfl rfl rfl rfl rfl hl.1 (Nat.le_of_ble_eq_true rfl) dX8_statements_131 ⟨Nat.zero_le _, Nat.zero_le _⟩ (fun H locs hP hD hS => ?_)
                  refine lv_aload_n hx hb dX8_statements_134 rfl (lv_at hl 0 rfl) ?_
                  refine lv_bipush (v := 115) hx hb dX8_statements_135 (by decide) ?_
                  refine lv_bipush (v := 60) hx hb dX8_statements_137 (by decide) ?_
                  obtain ⟨r26, hcr26, hM⟩ := ob_use hM
                  refine cl_V (As := [.int 115, .int 60]) (rest := []) (wM_CXLNTUO cI ad o_X o_L o_N r25 r26 o_O o_E o_Q o_V o_I o_C) [] ⟨hx, hb, hml, hown, hts⟩ (c_Model_push2 l D cI sd ad o_C o_X o_L o_N r25 o_O o_E o_Q o_V o_I o_U 115 60 r26 hcr26) (cwV2 hts q1257 mvX8_push2 rfl rfl ⟨(Nat.le_of_ble_eq_true rfl), (Nat.le_of_ble_eq_true rfl)⟩) hK hE hA hP hD hS 0 (T := TX8) (N := 48) (ci := 8) rfl rfl [0, 15] rfl (by decide) rfl rfl rfl rfl rfl rfl hl.1 (Nat.le_of_ble_eq_true rfl) dX8_statements_139 ⟨Nat.zero_le _, Nat.zero_le _⟩ (fun H locs hP hD hS => ?_)
                  refine lv_aload_n hx hb dX8_statements_142 rfl (lv_at hl 0 rfl) ?_
                  obtain ⟨r27, hcr27, hM⟩ := ob_use hM
                  refine cl_V (As := []) (rest := []) (wM_CXLNTUO cI ad o_X r27.1 r27.2 r25 r26 o_O o_E o_Q o_V o_I o_C) [] ⟨hx, hb, hml, hown, hts⟩ (c_Model_step l D cI sd ad r25 r26 o_O o_E o_Q o_V o_I o_C o_X o_L o_N r27 hcr27) (cwV2 hts q1151 mvX8_step rfl rfl ⟨(Nat.le_of_ble_eq_true rfl), (Nat.le_of_ble_eq_true rfl)⟩) hK hE hA hP hD hS 0 (T := TX8) (N := 48) (ci := 8) rfl rfl [0, 1, 2, 3, 4, 5, 6, 7] rfl (by decide) (mrgE rfl rfl) rfl rfl rfl rfl rfl hl.1 (Nat.le_of_ble_eq_true rfl) dX8_statements_143 ⟨Nat.zero_le _, Nat.zero_le _⟩ (fun H locs hP hD hS => ?_)
                  cases hM
                  exact rt_v hx hb hr hlk hP hD hS rfl dX8_statements_146
          · replace hM := if_t c11 hM
            refine lv_aload_n hx hb dX8_statements_77 rfl (lv_at hl 0 rfl) ?_
            obtain ⟨r28, hcr28, hM⟩ := ob_use hM
            refine cl_V (As := []) (rest := []) (wM_CXLNTUO cI ad o_X r28.2.1 o_N o_T o_U r28.2.2 o_E o_Q o_V o_I o_C) (.int r28.1 :: []) ⟨hx, hb, hml, hown, hts⟩ (c_Model_opens l D cI sd ad o_C o_X o_N o_T o_U o_E o_Q o_V o_I o_L o_O r28 hcr28) (cwV2 hts q1321 mvX8_opens rfl rfl ⟨(Nat.le_of_ble_eq_true rfl), (Nat.le_of_ble_eq_true rfl)⟩) hK hE hA hP hD hS 0 (T := TX8) (N := 48) (ci := 8) rfl rfl [0] rfl (by decide) rfl rfl rfl rfl rfl rfl hl.1 (Nat.le_of_ble_eq_true rfl) dX8_statements_78 ⟨Nat.zero_le _, Nat.zero_le _⟩ (fun H locs hP hD hS => ?_)
            refine lv_if_eq (tgt := 146) hx hb dX8_statements_81 (by decide) (fun c29 => ?_) (fun c29 => ?_)
            · replace hM := if_t c29 hM
              cases hM
              exact rt_v hx hb hr hlk hP hD hS rfl dX8_statements_146
            · replace hM := if_f c29 hM
              refine lv_aload_n hx hb dX8_statements_84 rfl (lv_at hl 0 rfl) ?_
              obtain ⟨r30, hcr30, hM⟩ := ob_use hM
              refine cl_V (As := []) (rest := []) (wM_CXLNTUO cI ad o_X r30.1 r30.2.1 r30.2.2.1 r30.2.2.2 r28.2.2 o_E o_Q o_V o_I o_C) [] ⟨hx, hb, hml, hown, hts⟩ (c_Model_compound l D cI sd ad r28.2.2 o_E o_Q o_V o_I o_C o_X r28.2.1 o_N o_T o_U r30 hcr30) (cwV2 hts q1325 mvX8_compound rfl rfl ⟨(Nat.le_of_ble_eq_true rfl), (Nat.le_of_ble_eq_true rfl)⟩) hK hE hA hP hD hS 0 (T := TX8) (N := 48) (ci := 8) rfl rfl [0, 1, 2, 3, 4, 5, 6, 7, 8, 9, 10, 11, 12, 13, 14, 15] (rng_hi (n := 16) rfl rfl) (by decide) (rng_rep (n := 16) rfl rfl rfl) rfl rfl rfl rfl rfl hl.1 (Nat.le_of_ble_eq_true rfl) dX8_statements_85 ⟨Nat.zero_le _, Nat.zero_le _⟩ (fun H locs hP hD hS => ?_)
              refine lv_goto (tgt := 146) hx hb dX8_statements_88 (by decide) ?_
              cases hM
              exact rt_v hx hb hr hlk hP hD hS rfl dX8_statements_146
    · replace hM := if_t c2 hM
      refine lv_aload_n hx hb dX8_statements_31 rfl (lv_at hl 0 rfl) ?_
      obtain ⟨r31, hcr31, hM⟩ := ob_use hM
      refine cl_V (As := []) (rest := []) (wM_CXLNTUO cI ad o_X o_L o_N o_T o_U r31 o_E o_Q o_V o_I o_C) [] ⟨hx, hb, hml, hown, hts⟩ (c_Model_keepName l D cI sd ad o_C o_X o_N o_T o_U o_E o_Q o_V o_I o_L o_O r31 hcr31) (cwV2 hts q1317 mvX8_keepName rfl rfl ⟨(Nat.le_of_ble_eq_true rfl), (Nat.le_of_ble_eq_true rfl)⟩) hK hE hA hP hD hS 0 (T := TX8) (N := 48) (ci := 8) rfl rfl [0] rfl (by decide) rfl rfl rfl rfl rfl rfl hl.1 (Nat.le_of_ble_eq_true rfl) dX8_statements_32 ⟨Nat.zero_le _, Nat.zero_le _⟩ (fun H locs hP hD hS => ?_)
      refine lv_aload_n hx hb dX8_statements_35 rfl (lv_at hl 0 rfl) ?_
      refine lv_bipush (v := 115) hx hb dX8_statements_36 (by decide) ?_
      refine lv_bipush (v := 116) hx hb dX8_statements_38 (by decide) ?_
      obtain ⟨r32, hcr32, hM⟩ := ob_use hM
      refine cl_V (As := [.int 115, .int 116]) (rest := []) (wM_CXLNTUO cI ad o_X o_L o_N o_T r32 r31 o_E o_Q o_V o_I o_C) [] ⟨hx, hb, hml, hown, hts⟩ (c_Model_push2 l D cI sd ad o_C o_X o_L o_N o_T r31 o_E o_Q o_V o_I o_U 115 116 r32 hcr32) (cwV2 hts q1257 mvX8_push2 rfl rfl ⟨(Nat.le_of_ble_eq_true rfl), (Nat.le_of_ble_eq_true rfl)⟩) hK hE hA hP hD hS 0 (T := TX8) (N := 48) (ci := 8) rfl rfl [0, 15] rfl (by decide) rfl rfl rfl rfl rfl rfl hl.1 (Nat.le_of_ble_eq_true rfl) dX8_statements_40 ⟨Nat.zero_le _, Nat.zero_le _⟩ (fun H locs hP hD hS => ?_)
      refine lv_aload_n hx hb dX8_statements_43 rfl (lv_at hl 0 rfl) ?_
      obtain ⟨r33, hcr33, hM⟩ := ob_use hM
      refine cl_V (As := []) (rest := []) (wM_CXLNTUO cI ad o_X r33.1 r33.2 o_T r32 r31 o_E o_Q o_V o_I o_C) [] ⟨hx, hb, hml, hown, hts⟩ (c_Model_step l D cI sd ad o_T r32 r31 o_E o_Q o_V o_I o_C o_X o_L o_N r33 hcr33) (cwV2 hts q1151 mvX8_step rfl rfl ⟨(Nat.le_of_ble_eq_true rfl), (Nat.le_of_ble_eq_true rfl)⟩) hK hE hA hP hD hS 0 (T := TX8) (N := 48) (ci := 8) rfl rfl [0, 1, 2, 3, 4, 5, 6, 7] rfl (by decide) (mrgE rfl rfl) rfl rfl rfl rfl rfl hl.1 (Nat.le_of_ble_eq_true rfl) dX8_statements_44 ⟨Nat.zero_le _, Nat.zero_le _⟩ (fun H locs hP hD hS => ?_)
      refine lv_goto (tgt := 146) hx hb dX8_statements_47 (by decide) ?_
      cases hM
      exact rt_v hx hb hr hlk hP hD hS rfl dX8_statements_146
  · replace hM := if_t c1 hM
    refine lv_aload_n hx hb dX8_statements_9 rfl (lv_at hl 0 rfl) ?_
    refine lv_bipush (v := 115) hx hb dX8_statements_10 (by decide) ?_
    obtain ⟨r34, hcr34, hM⟩ := ob_use hM
    refine cl_V (As := [.int 115]) (rest := []) (wM_CXLNTUO cI ad o_X o_L o_N o_T r34 o_O o_E o_Q o_V o_I o_C) [] ⟨hx, hb, hml, hown, hts⟩ (c_Model_push l D cI sd ad o_C o_X o_L o_N o_T o_O o_E o_Q o_V o_I o_U 115 r34 hcr34) (cwV2 hts q1147 mvX8_push rfl rfl ⟨(Nat.le_of_ble_eq_true rfl), (Nat.le_of_ble_eq_true rfl)⟩) hK hE hA hP hD hS 0 (T := TX8) (N := 48) (ci := 8) rfl rfl [0, 15] rfl (by decide) rfl rfl rfl rfl rfl rfl hl.1 (Nat.le_of_ble_eq_true rfl) dX8_statements_12 ⟨Nat.zero_le _, Nat.zero_le _⟩ (fun H locs hP hD hS => ?_)
    refine lv_aload_n hx hb dX8_statements_15 rfl (lv_at hl 0 rfl) ?_
    obtain ⟨r35, hcr35, hM⟩ := ob_use hM
    refine cl_V (As := []) (rest := []) (wM_CXLNTUO cI ad o_X r35.1 r35.2 o_T r34 o_O o_E o_Q o_V o_I o_C) [] ⟨hx, hb, hml, hown, hts⟩ (c_Model_step l D cI sd ad o_T r34 o_O o_E o_Q o_V o_I o_C o_X o_L o_N r35 hcr35) (cwV2 hts q1151 mvX8_step rfl rfl ⟨(Nat.le_of_ble_eq_true rfl), (Nat.le_of_ble_eq_true rfl)⟩) hK hE hA hP hD hS 0 (T := TX8) (N := 48) (ci := 8) rfl rfl [0, 1, 2, 3, 4, 5, 6, 7] rfl (by decide) (mrgE rfl rfl) rfl rfl rfl rfl rfl hl.1 (Nat.le_of_ble_eq_true rfl) dX8_statements_16 ⟨Nat.zero_le _, Nat.zero_le _⟩ (fun H locs hP hD hS => ?_)
    refine lv_goto (tgt := 146) hx hb dX8_statements_19 (by decide) ?_
    cases hM
    exact rt_v hx hb hr hlk hP hD hS rfl dX8_statements_146

set_option maxHeartbeats 4000000 in
set_option maxRecDepth 100000 in
theorem c_Model_up (l : Launch) (D : va_G) (cI : ClassId) (sd : Nat → Nat) (ad : Nat → Nat) (o_C : S_MC) (o_X : S_MX) (o_L : S_ML) (o_N : S_MN) (o_U : S_MU) (o_O : S_MO) (o_E : S_ME) (o_Q : S_MQ) (o_V : S_MV) (o_I : S_MI) (o_T : S_MT) (res : S_MT) (hM : f_Model_up o_T = some res) : Ctr l D cI sd yX8_up (wsM yX8_up cX8_up 1 (Option.none : Option Jvm.ClassFile.FieldType)) { frames := 0, cells := 0, slots := 0, locals := 0 } [.ref (ad 100)] (wM_T cI ad o_X o_L o_N o_T o_U o_O o_E o_Q o_V o_I) (wM_T cI ad o_X o_L o_N res o_U o_O o_E o_Q o_V o_I) none := by
  refine Ctr.of (cc := cX8_up) (maxL := 1) (own := RX8) (by decide +kernel) rfl rfl (Nat.le_of_ble_eq_true rfl) ?_
  intro p e s m below meth c A ls hx hb hr hml hown hts hlk hK hE hA hP hD hS hl
  have hl : lv_has ls 1 [(0, .ref (ad 100))] := hl
  unfold f_Model_up at hM
  refine lv_aload_n hx hb dX8_up_0 rfl (lv_at hl 0 rfl) ?_
  refine lv_aload_n hx hb dX8_up_1 rfl (lv_at hl 0 rfl) ?_
  refine va_get (D := D) (ci := 8) (v := .ref (ad 111)) (C := RX8) (T := TX8) (N := 48) hx hb hts layX8 hown hK hP 0 rfl rfl 20 (by decide) (hts _ (inA q998)) (fun _ h9 => h9) rfl dX8_up_2 ?_
  refine lv_aload_n hx hb dX8_up_5 rfl (lv_at hl 0 rfl) ?_
  refine va_get (D := D) (ci := 8) (v := .int o_T.2.1) (C := RX8) (T := TX8) (N := 48) hx hb hts layX8 hown hK hP 0 rfl rfl 24 (by decide) (hts _ (inA q1002)) (fun _ h9 => h9) rfl dX8_up_6 ?_
  obtain ⟨b1, hM⟩ := gd_use hM
  refine va_iald hx hb hK hP 4 0 rfl rfl b1 dX8_up_9 ?_
  refine lv_topi (fun x2 ex2 => ?_)
  replace hM := nm_use ex2 hM
  refine va_put (D := D) (ci := 8) (v := .int x2) (ty := .int) (C := RX8) (T := TX8) (N := 48) hx hb hts layX8 tyX8 tyX8_ok nmX8 hown hK hP hD hS 0 rfl rfl 24 (by decide) (hts _ (inA q1002)) (fun _ h9 => h9) rfl (by decide +kernel) rfl rfl (Nat.le_of_ble_eq_true rfl) dX8_up_10 (fun H locs hP hD hS => ?_)
  have hP : va_P D vwCl (wM_T cI ad o_X o_L o_N (o_T.1, x2, o_T.2.2) o_U o_O o_E o_Q o_V o_I) H := hP
  have hD : va_D A (wM_T cI ad o_X o_L o_N (o_T.1, x2, o_T.2.2) o_U o_O o_E o_Q o_V o_I) := hD
  cases hM
  exact rt_v hx hb hr hlk hP hD hS rfl dX8_up_13

set_option maxHeartbeats 4000000 in
set_option maxRecDepth 100000 in
theorem c_Model_behindName (l : Launch) (D : va_G) (cI : ClassId) (sd : Nat → Nat) (ad : Nat → Nat) (o_E : S_ME) (o_Q : S_MQ) (o_V : S_MV) (o_I : S_MI) (o_C : S_MC) (o_X : S_MX) (o_L : S_ML) (o_N : S_MN) (o_T : S_MT) (o_U : S_MU) (o_O : S_MO) (res : S_ML × S_MN × S_MT × S_MU × S_MO) (hM : f_Model_behindName o_C o_X o_L o_N o_T o_U o_O = some res) : Ctr l D cI sd yX8_behindName (wsM yX8_behindName cX8_behindName 1 (Option.none : Option Jvm.ClassFile.FieldType)) { frames := 5, cells := 0, slots := 0, locals := 112 } [.ref (ad 100)] (wM_CXLNTUO cI ad o_X o_L o_N o_T o_U o_O o_E o_Q o_V o_I o_C) (wM_CXLNTUO cI ad o_X res.1 res.2.1 res.2.2.1 res.2.2.2.1 res.2.2.2.2 o_E o_Q o_V o_I o_C) none := by
  refine Ctr.of (cc := cX8_behindName) (maxL := 1) (own := RX8) (by decide +kernel) rfl rfl (Nat.le_of_ble_eq_true rfl) ?_
  intro p e s m below meth c A ls hx hb hr hml hown hts hlk hK hE hA hP hD hS hl
  have hl : lv_has ls 1 [(0, .ref (ad 100))] := hl
  unfold f_Model_behindName at hM
  refine lv_aload_n hx hb dX8_behindName_0 rfl (lv_at hl 0 rfl) ?_
  refine va_get (D := D) (ci := 8) (v := .int o_L.2.1) (C := RX8) (T := TX8) (N := 48) hx hb hts layX8 hown hK hP 0 rfl rfl 7 (by decide) (hts _ (inA q985)) (fun _ h9 => h9) rfl dX8_behindName_1 ?_
  refine lv_bipush (v := 50) hx hb dX8_behindName_4 (by decide) ?_
  refine lv_icmp_ne (tgt := 53) hx hb dX8_behindName_6 (by decide) (fun c1 => ?_) (fun c1 => ?_)
  · replace hM := if_f c1 hM
    refine lv_aload_n hx hb dX8_behindName_53 rfl (lv_at hl 0 rfl) ?_
    refine va_get (D := D) (ci := 8) (v := .int o_L.2.1) (C := RX8) (T := TX8) (N := 48) hx hb hts layX8 hown hK hP 0 rfl rfl 7 (by decide) (hts _ (inA q985)) (fun _ h9 => h9) rfl dX8_behindName_54 ?_
    refine lv_bipush (v := 57) hx hb dX8_behindName_57 (by decide) ?_
    refine lv_icmp_ne (tgt := 127) hx hb dX8_behindName_59 (by decide) (fun c2 => ?_) (fun c2 => ?_)
    · replace hM := if_f c2 hM
      refine lv_aload_n hx hb dX8_behindName_127 rfl (lv_at hl 0 rfl) ?_
      refine va_get (D := D) (ci := 8) (v := .int o_L.2.1) (C := RX8) (T := TX8) (N := 48) hx hb hts layX8 hown hK hP 0 rfl rfl 7 (by decide) (hts _ (inA q985)) (fun _ h9 => h9) rfl dX8_behindName_128 ?_
      refine lv_bipush (v := 55) hx hb dX8_behindName_131 (by decide) ?_
      refine lv_icmp_ne (tgt := 178) hx hb dX8_behindName_133 (by decide) (fun c3 => ?_) (fun c3 => ?_)
      · replace hM := if_f c3 hM
        refine lv_aload_n hx hb dX8_behindName_178 rfl (lv_at hl 0 rfl) ?_
        obtain ⟨r4, hcr4, hM⟩ := ob_use hM
        refine cl_V (As := []) (rest := []) (wM_CXLNTUO cI ad o_X r4 o_N o_T o_U o_O o_E o_Q o_V o_I o_C) [] ⟨hx, hb, hml, hown, hts⟩ (c_Model_wrong l D cI sd ad o_C o_X o_N o_T o_U o_O o_E o_Q o_V o_I o_L r4 hcr4) (cwV2 hts q1233 mvX8_wrong rfl rfl ⟨(Nat.le_of_ble_eq_true rfl), (Nat.le_of_ble_eq_true rfl)⟩) hK hE hA hP hD hS 0 (T := TX8) (N := 48) (ci := 8) rfl rfl [0] rfl (by decide) rfl rfl rfl rfl rfl rfl hl.1 (Nat.le_of_ble_eq_true rfl) dX8_behindName_179 ⟨Nat.zero_le _, Nat.zero_le _⟩ (fun H locs hP hD hS => ?_)
        cases hM
        exact rt_v hx hb hr hlk hP hD hS rfl dX8_behindName_182
      · replace hM := if_t c3 hM
        refine lv_aload_n hx hb dX8_behindName_136 rfl (lv_at hl 0 rfl) ?_
        obtain ⟨r5, hcr5, hM⟩ := ob_use hM
        refine cl_V (As := []) (rest := []) (wM_CXLNTUO cI ad o_X r5.2.1 o_N o_T o_U r5.2.2 o_E o_Q o_V o_I o_C) (.int r5.1 :: []) ⟨hx, hb, hml, hown, hts⟩ (c_Model_opens l D cI sd ad o_C o_X o_N o_T o_U o_E o_Q o_V o_I o_L o_O r5 hcr5) (cwV2 hts q1321 mvX8_opens rfl rfl ⟨(Nat.le_of_ble_eq_true rfl), (Nat.le_of_ble_eq_true rfl)⟩) hK hE hA hP hD hS 0 (T := TX8) (N := 48) (ci := 8) rfl rfl [0] rfl (by decide) rfl rfl rfl rfl rfl rfl hl.1 (Nat.le_of_ble_eq_true rfl) dX8_behindName_137 ⟨Nat.zero_le _, Nat.zero_le _⟩ (fun H locs hP hD hS => ?_)
        refine lv_if_eq (tgt := 182) hx hb dX8_behindName_140 (by decide) (fun c6 => ?_) (fun c6 => ?_)
        · replace hM := if_t c6 hM
          cases hM
          exact rt_v hx hb hr hlk hP hD hS rfl dX8_behindName_182
        · replace hM := if_f c6 hM
          refine lv_aload_n hx hb dX8_behindName_143 rfl (lv_at hl 0 rfl) ?_
          refine lv_bipush (v := 13) hx hb dX8_behindName_144 (by decide) ?_
          refine lv_aload_n hx hb dX8_behindName_146 rfl (lv_at hl 0 rfl) ?_
          refine va_get (D := D) (ci := 8) (v := .int r5.2.2.2.2.2.1) (C := RX8) (T := TX8) (N := 48) hx hb hts layX8 hown hK hP 0 rfl rfl 30 (by decide) (hts _ (inA q1008)) (fun _ h9 => h9) rfl dX8_behindName_147 ?_
          refine lv_aload_n hx hb dX8_behindName_150 rfl (lv_at hl 0 rfl) ?_
          refine va_get (D := D) (ci := 8) (v := .int r5.2.2.2.2.2.2.1) (C := RX8) (T := TX8) (N := 48) hx hb hts layX8 hown hK hP 0 rfl rfl 31 (by decide) (hts _ (inA q1009)) (fun _ h9 => h9) rfl dX8_behindName_151 ?_
          obtain ⟨r7, hcr7, hM⟩ := ob_use hM
          refine cl_V (As := [.int 13, .int r5.2.2.2.2.2.1, .int r5.2.2.2.2.2.2.1]) (rest := []) (wM_CXLNTUO cI ad o_X r5.2.1 o_N r7 o_U r5.2.2 o_E o_Q o_V o_I o_C) [] ⟨hx, hb, hml, hown, hts⟩ (c_Model_down l D cI sd ad o_C o_X r5.2.1 o_N o_U r5.2.2 o_E o_Q o_V o_I o_T 13 r5.2.2.2.2.2.1 r5.2.2.2.2.2.2.1 r7 hcr7) (cwV2 hts q1245 mvX8_down rfl rfl ⟨(Nat.le_of_ble_eq_true rfl), (Nat.le_of_ble_eq_true rfl)⟩) hK hE hA hP hD hS 0 (T := TX8) (N := 48) (ci := 8) rfl rfl [0, 8, 9, 10, 11, 12, 13, 14] rfl (by decide) (mrgE rfl rfl) rfl rfl rfl rfl rfl hl.1 (Nat.le_of_ble_eq_true rfl) dX8_behindName_154 ⟨Nat.zero_le _, Nat.zero_le _⟩ (fun H locs hP hD hS => ?_)
          refine lv_aload_n hx hb dX8_behindName_157 rfl (lv_at hl 0 rfl) ?_
          refine lv_bipush (v := 101) hx hb dX8_behindName_158 (by decide) ?_
          refine lv_bipush (v := 60) hx hb dX8_behindName_160 (by decide) ?_
          refine lv_sipush (v := 130) hx hb dX8_behindName_162 (by decide) ?_
          refine lv_sipush (v := 131) hx hb dX8_behindName_165 (by decide) ?_
          obtain ⟨r8, hcr8, hM⟩ := ob_use hM
          refine cl_V (As := [.int 101, .int 60, .int 130, .int 131]) (rest := []) (wM_CXLNTUO cI ad o_X r5.2.1 o_N r7 r8 r5.2.2 o_E o_Q o_V o_I o_C) [] ⟨hx, hb, hml, hown, hts⟩ (c_Model_push4 l D cI sd ad o_C o_X r5.2.1 o_N r7 r5.2.2 o_E o_Q o_V o_I o_U 101 60 130 131 r8 hcr8) (cwV2 hts q1253 mvX8_push4 rfl rfl ⟨(Nat.le_of_ble_eq_true rfl), (Nat.le_of_ble_eq_true rfl)⟩) hK hE hA hP hD hS 0 (T := TX8) (N := 48) (ci := 8) rfl rfl [0, 15] rfl (by decide) rfl rfl rfl rfl rfl rfl hl.1 (Nat.le_of_ble_eq_true rfl) dX8_behindName_168 ⟨Nat.zero_le _, Nat.zero_le _⟩ (fun H locs hP hD hS => ?_)
          refine lv_aload_n hx hb dX8_behindName_171 rfl (lv_at hl 0 rfl) ?_
          obtain ⟨r9, hcr9, hM⟩ := ob_use hM
          refine cl_V (As := []) (rest := []) (wM_CXLNTUO cI ad o_X r9.1 r9.2 r7 r8 r5.2.2 o_E o_Q o_V o_I o_C) [] ⟨hx, hb, hml, hown, hts⟩ (c_Model_step l D cI sd ad r7 r8 r5.2.2 o_E o_Q o_V o_I o_C o_X r5.2.1 o_N r9 hcr9) (cwV2 hts q1151 mvX8_step rfl rfl ⟨(Nat.le_of_ble_eq_true rfl), (Nat.le_of_ble_eq_true rfl)⟩) hK hE hA hP hD hS 0 (T := TX8) (N := 48) (ci := 8) rfl rfl [0, 1, 2, 3, 4, 5, 6, 7] rfl (by decide) (mrgE rfl rfl) rfl rfl rfl rfl rfl hl.1 (Nat.le_of_ble_eq_true rfl) dX8_behindName_172 ⟨Nat.zero_le _, Nat.zero_le _⟩ (fun H locs hP hD hS => ?_)
          refine lv_goto (tgt := 182) hx hb dX8_behindName_175 (by decide) ?_
          cases hM
          exact rt_v hx hb hr hlk hP hD hS rfl dX8_behindName_182
    · replace hM := if_t c2 hM
      refine lv_aload_n hx hb dX8_behindName_62 rfl (lv_at hl 0 rfl) ?_
      obtain ⟨r10, hcr10, hM⟩ := ob_use hM
      refine cl_V (As := []) (rest := []) (wM_CXLNTUO cI ad o_X r10.2.1 o_N o_T o_U r10.2.2 o_E o_Q o_V o_I o_C) (.int r10.1 :: []) ⟨hx, hb, hml, hown, hts⟩ (c_Model_opens l D cI sd ad o_C o_X o_N o_T o_U o_E o_Q o_V o_I o_L o_O r10 hcr10) (cwV2 hts q1321 mvX8_opens rfl rfl ⟨(Nat.le_of_ble_eq_true rfl), (Nat.le_of_ble_eq_true rfl)⟩) hK hE hA hP hD hS 0 (T := TX8) (N := 48) (ci := 8) rfl rfl [0] rfl (by decide) rfl rfl rfl rfl rfl rfl hl.1 (Nat.le_of_ble_eq_true rfl) dX8_behindName_63 ⟨Nat.zero_le _, Nat.zero_le _⟩ (fun H locs hP hD hS => ?_)
      refine lv_if_eq (tgt := 182) hx hb dX8_behindName_66 (by decide) (fun c11 => ?_) (fun c11 => ?_)
      · replace hM := if_t c11 hM
        cases hM
        exact rt_v hx hb hr hlk hP hD hS rfl dX8_behindName_182
      · replace hM := if_f c11 hM
        refine lv_aload_n hx hb dX8_behindName_69 rfl (lv_at hl 0 rfl) ?_
        refine lv_bipush (v := 12) hx hb dX8_behindName_70 (by decide) ?_
        refine lv_aload_n hx hb dX8_behindName_72 rfl (lv_at hl 0 rfl) ?_
        refine va_get (D := D) (ci := 8) (v := .int r10.2.1.1) (C := RX8) (T := TX8) (N := 48) hx hb hts layX8 hown hK hP 0 rfl rfl 6 (by decide) (hts _ (inA q984)) (fun _ h9 => h9) rfl dX8_behindName_73 ?_
        refine lv_iconst (v := 0) hx hb dX8_behindName_76 (by decide) ?_
        obtain ⟨r12, hcr12, hM⟩ := ob_use hM
        refine cl_V (As := [.int 12, .int r10.2.1.1, .int 0]) (rest := []) (wM_CXLNTUO cI ad o_X r10.2.1 o_N r12 o_U r10.2.2 o_E o_Q o_V o_I o_C) [] ⟨hx, hb, hml, hown, hts⟩ (c_Model_down l D cI sd ad o_C o_X r10.2.1 o_N o_U r10.2.2 o_E o_Q o_V o_I o_T 12 r10.2.1.1 0 r12 hcr12) (cwV2 hts q1245 mvX8_down rfl rfl ⟨(Nat.le_of_ble_eq_true rfl), (Nat.le_of_ble_eq_true rfl)⟩) hK hE hA hP hD hS 0 (T := TX8) (N := 48) (ci := 8) rfl rfl [0, 8, 9, 10, 11, 12, 13, 14] rfl (by decide) (mrgE rfl rfl) rfl rfl rfl rfl rfl hl.1 (Nat.le_of_ble_eq_true rfl) dX8_behindName_77 ⟨Nat.zero_le _, Nat.zero_le _⟩ (fun H locs hP hD hS => ?_)
        refine lv_aload_n hx hb dX8_behindName_80 rfl (lv_at hl 0 rfl) ?_
        refine lv_bipush (v := 32) hx hb dX8_behindName_81 (by decide) ?_
        refine lv_aload_n hx hb dX8_behindName_83 rfl (lv_at hl 0 rfl) ?_
        refine va_get (D := D) (ci := 8) (v := .int r10.2.2.2.2.2.1) (C := RX8) (T := TX8) (N := 48) hx hb hts layX8 hown hK hP 0 rfl rfl 30 (by decide) (hts _ (inA q1008)) (fun _ h9 => h9) rfl dX8_behindName_84 ?_
        refine lv_aload_n hx hb dX8_behindName_87 rfl (lv_at hl 0 rfl) ?_
        refine va_get (D := D) (ci := 8) (v := .int r10.2.2.2.2.2.2.1) (C := RX8) (T := TX8) (N := 48) hx hb hts layX8 hown hK hP 0 rfl rfl 31 (by decide) (hts _ (inA q1009)) (fun _ h9 => h9) rfl dX8_behindName_88 ?_
        obtain ⟨r13, hcr13, hM⟩ := ob_use hM
        refine cl_V (As := [.int 32, .int r10.2.2.2.2.2.1, .int r10.2.2.2.2.2.2.1]) (rest := []) (wM_CXLNTUO cI ad o_X r10.2.1 o_N r13 o_U r10.2.2 o_E o_Q o_V o_I o_C) [] ⟨hx, hb, hml, hown, hts⟩ (c_Model_down l D cI sd ad o_C o_X r10.2.1 o_N o_U r10.2.2 o_E o_Q o_V o_I r12 32 r10.2.2.2.2.2.1 r10.2.2.2.2.2.2.1 r13 hcr13) (cwV2 hts q1245 mvX8_down rfl rfl ⟨(Nat.le_of_ble_eq_true rfl), (Nat.le_of_ble_eq_true rfl)⟩) hK hE hA hP hD hS 0 (T := TX8) (N := 48) (ci := 8) rfl rfl [0, 8, 9, 10, 11, 12, 13, 14] rfl (by decide) (mrgE rfl rfl) rfl rfl rfl rfl rfl hl.1 (Nat.le_of_ble_eq_true rfl) dX8_behindName_91 ⟨Nat.zero_le _, Nat.zero_le _⟩ (fun H locs hP hD hS => ?_)
        refine lv_aload_n hx hb dX8_behindName_94 rfl (lv_at hl 0 rfl) ?_
        refine lv_bipush (v := 101) hx hb dX8_behindName_95 (by decide) ?_
        refine lv_bipush (v := 60) hx hb dX8_behindName_97 (by decide) ?_
        obtain ⟨r14, hcr14, hM⟩ := ob_use hM
        refine cl_V (As := [.int 101, .int 60]) (rest := []) (wM_CXLNTUO cI ad o_X r10.2.1 o_N r13 r14 r10.2.2 o_E o_Q o_V o_I o_C) [] ⟨hx, hb, hml, hown, hts⟩ (c_Model_push2 l D cI sd ad o_C o_X r10.2.1 o_N r13 r10.2.2 o_E o_Q o_V o_I o_U 101 60 r14 hcr14) (cwV2 hts q1257 mvX8_push2 rfl rfl ⟨(Nat.le_of_ble_eq_true rfl), (Nat.le_of_ble_eq_true rfl)⟩) hK hE hA hP hD hS 0 (T := TX8) (N := 48) (ci := 8) rfl rfl [0, 15] rfl (by decide) rfl rfl rfl rfl rfl rfl hl.1 (Nat.le_of_ble_eq_true rfl) dX8_behindName_99 ⟨Nat.zero_le _, Nat.zero_le _⟩ (fun H locs hP hD hS => ?_)
        refine lv_aload_n hx hb dX8_behindName_102 rfl (lv_at hl 0 rfl) ?_
        obtain ⟨r15, hcr15, hM⟩ := ob_use hM
        refine cl_V (As := []) (rest := []) (wM_CXLNTUO cI ad o_X r10.2.1 o_N r13 r15 r10.2.2 o_E o_Q o_V o_I o_C) [] ⟨hx, hb, hml, hown, hts⟩ (c_Model_pushExpression l D cI sd ad o_C o_X r10.2.1 o_N r13 r10.2.2 o_E o_Q o_V o_I r14 r15 hcr15) (cwV2 hts q1329 mvX8_pushExpression rfl rfl ⟨(Nat.le_of_ble_eq_true rfl), (Nat.le_of_ble_eq_true rfl)⟩) hK hE hA hP hD hS 0 (T := TX8) (N := 48) (ci := 8) rfl rfl [0, 15] rfl (by decide) rfl rfl rfl rfl rfl rfl hl.1 (Nat.le_of_ble_eq_true rfl) dX8_behindName_103 ⟨Nat.zero_le _, Nat.zero_le _⟩ (fun H locs hP hD hS => ?_)
        refine lv_aload_n hx hb dX8_behindName_106 rfl (lv_at hl 0 rfl) ?_
        refine lv_sipush (v := 128) hx hb dX8_behindName_107 (by decide) ?_
        refine lv_sipush (v := 129) hx hb dX8_behindName_110 (by decide) ?_
        obtain ⟨r16, hcr16, hM⟩ := ob_use hM
        refine cl_V (As := [.int 128, .int 129]) (rest := []) (wM_CXLNTUO cI ad o_X r10.2.1 o_N r13 r16 r10.2.2 o_E o_Q o_V o_I o_C) [] ⟨hx, hb, hml, hown, hts⟩ (c_Model_push2 l D cI sd ad o_C o_X r10.2.1 o_N r13 r10.2.2 o_E o_Q o_V o_I r15 128 129 r16 hcr16) (cwV2 hts q1257 mvX8_push2 rfl rfl ⟨(Nat.le_of_ble_eq_true rfl), (Nat.le_of_ble_eq_true rfl)⟩) hK hE hA hP hD hS 0 (T := TX8) (N := 48) (ci := 8) rfl rfl [0, 15] rfl (by decide) rfl rfl rfl rfl rfl rfl hl.1 (Nat.le_of_ble_eq_true rfl) dX8_behindName_113 ⟨Nat.zero_le _, Nat.zero_le _⟩ (fun H locs hP hD hS => ?_)
        refine lv_aload_n hx hb dX8_behindName_116 rfl (lv_at hl 0 rfl) ?_
        obtain ⟨r17, hcr17, hM⟩ := ob_use hM
        refine cl_V (As := []) (rest := []) (wM_CXLNTUO cI ad o_X r10.2.1 o_N r13 r17 r10.2.2 o_E o_Q o_V o_I o_C) [] ⟨hx, hb, hml, hown, hts⟩ (c_Model_pushExpression l D cI sd ad o_C o_X r10.2.1 o_N r13 r10.2.2 o_E o_Q o_V o_I r16 r17 hcr17) (cwV2 hts q1329 mvX8_pushExpression rfl rfl ⟨(Nat.le_of_ble_eq_true rfl), (Nat.le_of_ble_eq_true rfl)⟩) hK hE hA hP hD hS 0 (T := TX8) (N := 48) (ci := 8) rfl rfl [0, 15] rfl (by decide) rfl rfl rfl rfl rfl rfl hl.1 (Nat.le_of_ble_eq_true rfl) dX8_behindName_117 ⟨Nat.zero_le _, Nat.zero_le _⟩ (fun H locs hP hD hS => ?_)
        refine lv_aload_n hx hb dX8_behindName_120 rfl (lv_at hl 0 rfl) ?_
        obtain ⟨r18, hcr18, hM⟩ := ob_use hM
        refine cl_V (As := []) (rest := []) (wM_CXLNTUO cI ad o_X r18.1 r18.2 r13 r17 r10.2.2 o_E o_Q o_V o_I o_C) [] ⟨hx, hb, hml, hown, hts⟩ (c_Model_step l D cI sd ad r13 r17 r10.2.2 o_E o_Q o_V o_I o_C o_X r10.2.1 o_N r18 hcr18) (cwV2 hts q1151 mvX8_step rfl rfl ⟨(Nat.le_of_ble_eq_true rfl), (Nat.le_of_ble_eq_true rfl)⟩) hK hE hA hP hD hS 0 (T := TX8) (N := 48) (ci := 8) rfl rfl [0, 1, 2, 3, 4, 5, 6, 7] rfl (by decide) (mrgE rfl rfl) rfl rfl rfl rfl rfl hl.1 (Nat.le_of_ble_eq_true rfl) dX8_behindName_121 ⟨Nat.zero_le _, Nat.zero_le _⟩ (fun H locs hP hD hS => ?_)
        refine lv_goto (tgt := 182) hx hb dX8_behindName_124 (by decide) ?_
        cases hM
        exact rt_v hx hb hr hlk hP hD hS rfl dX8_behindName_182
  · replace hM := if_t c1 hM
    refine lv_aload_n hx hb dX8_behindName_9 rfl (lv_at hl 0 rfl) ?_
    refine lv_bipush (v := 12) hx hb dX8_behindName_10 (by decide) ?_
    refine lv_aload_n hx hb dX8_behindName_12 rfl (lv_at hl 0 rfl) ?_
    refine va_get (D := D) (ci := 8) (v := .int o_L.1) (C := RX8) (T := TX8) (N := 48) hx hb hts layX8 hown hK hP 0 rfl rfl 6 (by decide) (hts _ (inA q984)) (fun _ h9 => h9) rfl dX8_behindName_13 ?_
    refine lv_iconst (v := 0) hx hb dX8_behindName_16 (by decide) ?_
    obtain ⟨r19, hcr19, hM⟩ := ob_use hM
    refine cl_V (As := [.int 12, .int o_L.1, .int 0]) (rest := []) (wM_CXLNTUO cI ad o_X o_L o_N r19 o_U o_O o_E o_Q o_V o_I o_C) [] ⟨hx, hb, hml, hown, hts⟩ (c_Model_down l D cI sd ad o_C o_X o_L o_N o_U o_O o_E o_Q o_V o_I o_T 12 o_L.1 0 r19 hcr19) (cwV2 hts q1245 mvX8_down rfl rfl ⟨(Nat.le_of_ble_eq_true rfl), (Nat.le_of_ble_eq_true rfl)⟩) hK hE hA hP hD hS 0 (T := TX8) (N := 48) (ci := 8) rfl rfl [0, 8, 9, 10, 11, 12, 13, 14] rfl (by decide) (mrgE rfl rfl) rfl rfl rfl rfl rfl hl.1 (Nat.le_of_ble_eq_true rfl) dX8_behindName_17 ⟨Nat.zero_le _, Nat.zero_le _⟩ (fun H locs hP hD hS => ?_)
    refine lv_aload_n hx hb dX8_behindName_20 rfl (lv_at hl 0 rfl) ?_
    refine lv_bipush (v := 6) hx hb dX8_behindName_21 (by decide) ?_
    refine lv_aload_n hx hb dX8_behindName_23 rfl (lv_at hl 0 rfl) ?_
    refine va_get (D := D) (ci := 8) (v := .int o_O.2.2.2.1) (C := RX8) (T := TX8) (N := 48) hx hb hts layX8 hown hK hP 0 rfl rfl 30 (by decide) (hts _ (inA q1008)) (fun _ h9 => h9) rfl dX8_behindName_24 ?_
    refine lv_aload_n hx hb dX8_behindName_27 rfl (lv_at hl 0 rfl) ?_
    refine va_get (D := D) (ci := 8) (v := .int o_O.2.2.2.2.1) (C := RX8) (T := TX8) (N := 48) hx hb hts layX8 hown hK hP 0 rfl rfl 31 (by decide) (hts _ (inA q1009)) (fun _ h9 => h9) rfl dX8_behindName_28 ?_
    obtain ⟨r20, hcr20, hM⟩ := ob_use hM
    refine cl_V (As := [.int 6, .int o_O.2.2.2.1, .int o_O.2.2.2.2.1]) (rest := []) (wM_CXLNTUO cI ad o_X o_L o_N r20 o_U o_O o_E o_Q o_V o_I o_C) [] ⟨hx, hb, hml, hown, hts⟩ (c_Model_leaf l D cI sd ad o_C o_X o_L o_N o_U o_O o_E o_Q o_V o_I r19 6 o_O.2.2.2.1 o_O.2.2.2.2.1 r20 hcr20) (cwV2 hts q1277 mvX8_leaf rfl rfl ⟨(Nat.le_of_ble_eq_true rfl), (Nat.le_of_ble_eq_true rfl)⟩) hK hE hA hP hD hS 0 (T := TX8) (N := 48) (ci := 8) rfl rfl [0, 8, 9, 10, 11, 12, 13, 14] rfl (by decide) (mrgE rfl rfl) rfl rfl rfl rfl rfl hl.1 (Nat.le_of_ble_eq_true rfl) dX8_behindName_31 ⟨Nat.zero_le _, Nat.zero_le _⟩ (fun H locs hP hD hS => ?_)
    refine lv_aload_n hx hb dX8_behindName_34 rfl (lv_at hl 0 rfl) ?_
    refine lv_bipush (v := 101) hx hb dX8_behindName_35 (by decide) ?_
    refine lv_bipush (v := 60) hx hb dX8_behindName_37 (by decide) ?_
    obtain ⟨r21, hcr21, hM⟩ := ob_use hM
    refine cl_V (As := [.int 101, .int 60]) (rest := []) (wM_CXLNTUO cI ad o_X o_L o_N r20 r21 o_O o_E o_Q o_V o_I o_C) [] ⟨hx, hb, hml, hown, hts⟩ (c_Model_push2 l D cI sd ad o_C o_X o_L o_N r20 o_O o_E o_Q o_V o_I o_U 101 60 r21 hcr21) (cwV2 hts q1257 mvX8_push2 rfl rfl ⟨(Nat.le_of_ble_eq_true rfl), (Nat.le_of_ble_eq_true rfl)⟩) hK hE hA hP hD hS 0 (T := TX8) (N := 48) (ci := 8) rfl rfl [0, 15] rfl (by decide) rfl rfl rfl rfl rfl rfl hl.1 (Nat.le_of_ble_eq_true rfl) dX8_behindName_39 ⟨Nat.zero_le _, Nat.zero_le _⟩ (fun H locs hP hD hS => ?_)
    refine lv_aload_n hx hb dX8_behindName_42 rfl (lv_at hl 0 rfl) ?_
    obtain ⟨r22, hcr22, hM⟩ := ob_use hM
    refine cl_V (As := []) (rest := []) (wM_CXLNTUO cI ad o_X o_L o_N r20 r22 o_O o_E o_Q o_V o_I o_C) [] ⟨hx, hb, hml, hown, hts⟩ (c_Model_pushExpression l D cI sd ad o_C o_X o_L o_N r20 o_O o_E o_Q o_V o_I r21 r22 hcr22) (cwV2 hts q1329 mvX8_pushExpression rfl rfl ⟨(Nat.le_of_ble_eq_true rfl), (Nat.le_of_ble_eq_true rfl)⟩) hK hE hA hP hD hS 0 (T := TX8) (N := 48) (ci := 8) rfl rfl [0, 15] rfl (by decide) rfl rfl rfl rfl rfl rfl hl.1 (Nat.le_of_ble_eq_true rfl) dX8_behindName_43 ⟨Nat.zero_le _, Nat.zero_le _⟩ (fun H locs hP hD hS => ?_)
    refine lv_aload_n hx hb dX8_behindName_46 rfl (lv_at hl 0 rfl) ?_
    obtain ⟨r23, hcr23, hM⟩ := ob_use hM
    refine cl_V (As := []) (rest := []) (wM_CXLNTUO cI ad o_X r23.1 r23.2 r20 r22 o_O o_E o_Q o_V o_I o_C) [] ⟨hx, hb, hml, hown, hts⟩ (c_Model_step l D cI sd ad r20 r22 o_O o_E o_Q o_V o_I o_C o_X o_L o_N r23 hcr23) (cwV2 hts q1151 mvX8_step rfl rfl ⟨(Nat.le_of_ble_eq_true rfl), (Nat.le_of_ble_eq_true rfl)⟩) hK hE hA hP hD hS 0 (T := TX8) (N := 48) (ci := 8) rfl rfl [0, 1, 2, 3, 4, 5, 6, 7] rfl (by decide) (mrgE rfl rfl) rfl rfl rfl rfl rfl hl.1 (Nat.le_of_ble_eq_true rfl) dX8_behindName_47 ⟨Nat.zero_le _, Nat.zero_le _⟩ (fun H locs hP hD hS => ?_)
    refine lv_goto (tgt := 182) hx hb dX8_behindName_50 (by decide) ?_
    cases hM
    exact rt_v hx hb hr hlk hP hD hS rfl dX8_behindName_182

set_option maxHeartbeats 4000000 in
set_option maxRecDepth 100000 in
theorem c_Model_indexEnd (l : Launch) (D : va_G) (cI : ClassId) (sd : Nat → Nat) (ad : Nat → Nat) (o_U : S_MU) (o_E : S_ME) (o_Q : S_MQ) (o_V : S_MV) (o_I : S_MI) (o_C : S_MC) (o_X : S_MX) (o_L : S_ML) (o_N : S_MN) (o_T : S_MT) (o_O : S_MO) (res : S_ML × S_MN × S_MT × S_MO) (hM : f_Model_indexEnd o_C o_X o_L o_N o_T o_O = some res) : Ctr l D cI sd yX8_indexEnd (wsM yX8_indexEnd cX8_indexEnd 1 (Option.none : Option Jvm.ClassFile.FieldType)) { frames := 6, cells := 0, slots := 0, locals := 133 } [.ref (ad 100)] (wM_CXLNTO cI ad o_X o_L o_N o_T o_U o_O o_E o_Q o_V o_I o_C) (wM_CXLNTO cI ad o_X res.1 res.2.1 res.2.2.1 o_U res.2.2.2 o_E o_Q o_V o_I o_C) none := by
  refine Ctr.of (cc := cX8_indexEnd) (maxL := 1) (own := RX8) (by decide +kernel) rfl rfl (Nat.le_of_ble_eq_true rfl) ?_
  intro p e s m below meth c A ls hx hb hr hml hown hts hlk hK hE hA hP hD hS hl
  have hl : lv_has ls 1 [(0, .ref (ad 100))] := hl
  unfold f_Model_indexEnd at hM
  refine lv_aload_n hx hb dX8_indexEnd_0 rfl (lv_at hl 0 rfl) ?_
  refine lv_dup hx hb dX8_indexEnd_1 rfl ?_
  refine va_get (D := D) (ci := 8) (v := .int o_O.1) (C := RX8) (T := TX8) (N := 48) hx hb hts layX8 hown hK hP 0 rfl rfl 27 (by decide) (hts _ (inA q1005)) (fun _ h9 => h9) rfl dX8_indexEnd_2 ?_
  refine lv_iconst (v := 1) hx hb dX8_indexEnd_5 (by decide) ?_
  refine lv_isub hx hb dX8_indexEnd_6 ?_
  refine va_put (D := D) (ci := 8) (v := .int (o_O.1 - 1)) (ty := .int) (C := RX8) (T := TX8) (N := 48) hx hb hts layX8 tyX8 tyX8_ok nmX8 hown hK hP hD hS 0 rfl rfl 27 (by decide) (hts _ (inA q1005)) (fun _ h9 => h9) rfl (by decide +kernel) rfl rfl (Nat.le_of_ble_eq_true rfl) dX8_indexEnd_7 (fun H locs hP hD hS => ?_)
  have hP : va_P D vwCl (wM_CXLNTO cI ad o_X o_L o_N o_T o_U (o_O.1 - 1, o_O.2) o_E o_Q o_V o_I o_C) H := hP
  have hD : va_D A (wM_CXLNTO cI ad o_X o_L o_N o_T o_U (o_O.1 - 1, o_O.2) o_E o_Q o_V o_I o_C) := hD
  refine lv_aload_n hx hb dX8_indexEnd_10 rfl (lv_at hl 0 rfl) ?_
  obtain ⟨r1, hcr1, hM⟩ := ob_use hM
  refine cl_V (As := []) (rest := []) (wM_CXLNTO cI ad o_X o_L o_N r1 o_U (o_O.1 - 1, o_O.2) o_E o_Q o_V o_I o_C) [] ⟨hx, hb, hml, hown, hts⟩ (c_Model_up l D cI sd ad o_C o_X o_L o_N o_U (o_O.1 - 1, o_O.2) o_E o_Q o_V o_I o_T r1 hcr1) (cwV2 hts q1261 mvX8_up rfl rfl ⟨(Nat.le_of_ble_eq_true rfl), (Nat.le_of_ble_eq_true rfl)⟩) hK hE hA hP hD hS 0 (T := TX8) (N := 48) (ci := 8) rfl rfl [0, 8, 9, 10, 11, 12, 13, 14] rfl (by decide) (mrgE rfl rfl) rfl rfl rfl rfl rfl hl.1 (Nat.le_of_ble_eq_true rfl) dX8_indexEnd_11 ⟨Nat.zero_le _, Nat.zero_le _⟩ (fun H locs hP hD hS => ?_)
  refine lv_aload_n hx hb dX8_indexEnd_14 rfl (lv_at hl 0 rfl) ?_
  refine lv_bipush (v := 58) hx hb dX8_indexEnd_15 (by decide) ?_
  obtain ⟨r2, hcr2, hM⟩ := ob_use hM
  refine cl_V (As := [.int 58]) (rest := []) (wM_CXLNTO cI ad o_X r2.1 r2.2 r1 o_U (o_O.1 - 1, o_O.2) o_E o_Q o_V o_I o_C) [] ⟨hx, hb, hml, hown, hts⟩ (c_Model_pass l D cI sd ad r1 o_U (o_O.1 - 1, o_O.2) o_E o_Q o_V o_I o_C o_X o_L o_N 58 r2 hcr2) (cwV2 hts q1229 mvX8_pass rfl rfl ⟨(Nat.le_of_ble_eq_true rfl), (Nat.le_of_ble_eq_true rfl)⟩) hK hE hA hP hD hS 0 (T := TX8) (N := 48) (ci := 8) rfl rfl [0, 1, 2, 3, 4, 5, 6, 7] rfl (by decide) (mrgE rfl rfl) rfl rfl rfl rfl rfl hl.1 (Nat.le_of_ble_eq_true rfl) dX8_indexEnd_17 ⟨Nat.zero_le _, Nat.zero_le _⟩ (fun H locs hP hD hS => ?_)
  cases hM
  exact rt_v hx hb hr hlk hP hD hS rfl dX8_indexEnd_20

set_option maxHeartbeats 4000000 in
set_option maxRecDepth 100000 in
theorem c_Model_assign (l : Launch) (D : va_G) (cI : ClassId) (sd : Nat → Nat) (ad : Nat → Nat) (o_U : S_MU) (o_O : S_MO) (o_E : S_ME) (o_Q : S_MQ) (o_V : S_MV) (o_I : S_MI) (o_C : S_MC) (o_X : S_MX) (o_L : S_ML) (o_N : S_MN) (o_T : S_MT) (res : S_ML × S_MN × S_MT) (hM : f_Model_assign o_C o_X o_L o_N o_T = some res) : Ctr l D cI sd yX8_assign (wsM yX8_assign cX8_assign 1 (Option.none : Option Jvm.ClassFile.FieldType)) { frames := 6, cells := 0, slots := 0, locals := 133 } [.ref (ad 100)] (wM_CXLNT cI ad o_X o_L o_N o_T o_U o_O o_E o_Q o_V o_I o_C) (wM_CXLNT cI ad o_X res.1 res.2.1 res.2.2 o_U o_O o_E o_Q o_V o_I o_C) none := by
  refine Ctr.of (cc := cX8_assign) (maxL := 1) (own := RX8) (by decide +kernel) rfl rfl (Nat.le_of_ble_eq_true rfl) ?_
  intro p e s m below meth c A ls hx hb hr hml hown hts hlk hK hE hA hP hD hS hl
  have hl : lv_has ls 1 [(0, .ref (ad 100))] := hl
  unfold f_Model_assign at hM
  refine lv_aload_n hx hb dX8_assign_0 rfl (lv_at hl 0 rfl) ?_
  refine va_get (D := D) (ci := 8) (v := .ref (ad 109)) (C := RX8) (T := TX8) (N := 48) hx hb hts layX8 hown hK hP 0 rfl rfl 18 (by decide) (hts _ (inA q996)) (fun _ h9 => h9) rfl dX8_assign_1 ?_
  refine lv_aload_n hx hb dX8_assign_4 rfl (lv_at hl 0 rfl) ?_
  refine va_get (D := D) (ci := 8) (v := .int o_T.2.1) (C := RX8) (T := TX8) (N := 48) hx hb hts layX8 hown hK hP 0 rfl rfl 24 (by decide) (hts _ (inA q1002)) (fun _ h9 => h9) rfl dX8_assign_5 ?_
  refine lv_aload_n hx hb dX8_assign_8 rfl (lv_at hl 0 rfl) ?_
  refine va_get (D := D) (ci := 8) (v := .int o_L.1) (C := RX8) (T := TX8) (N := 48) hx hb hts layX8 hown hK hP 0 rfl rfl 6 (by decide) (hts _ (inA q984)) (fun _ h9 => h9) rfl dX8_assign_9 ?_
  obtain ⟨b1, hM⟩ := gd_use hM
  refine va_iast hx hb hK hP hD hS 9 0 rfl rfl b1 dX8_assign_12 (fun H locs hP hD hS => ?_)
  have hP : va_P D vwCl (wM_CXLNT cI ad o_X o_L o_N (o_T.1, o_T.2.1, o_T.2.2.1, upd o_T.2.2.2.1 o_T.2.1.toNatClampNeg o_L.1, o_T.2.2.2.2) o_U o_O o_E o_Q o_V o_I o_C) H := hP
  have hD : va_D A (wM_CXLNT cI ad o_X o_L o_N (o_T.1, o_T.2.1, o_T.2.2.1, upd o_T.2.2.2.1 o_T.2.1.toNatClampNeg o_L.1, o_T.2.2.2.2) o_U o_O o_E o_Q o_V o_I o_C) := hD
  refine lv_aload_n hx hb dX8_assign_13 rfl (lv_at hl 0 rfl) ?_
  refine lv_bipush (v := 50) hx hb dX8_assign_14 (by decide) ?_
  obtain ⟨r2, hcr2, hM⟩ := ob_use hM
  refine cl_V (As := [.int 50]) (rest := []) (wM_CXLNT cI ad o_X r2.1 r2.2 (o_T.1, o_T.2.1, o_T.2.2.1, upd o_T.2.2.2.1 o_T.2.1.toNatClampNeg o_L.1, o_T.2.2.2.2) o_U o_O o_E o_Q o_V o_I o_C) [] ⟨hx, hb, hml, hown, hts⟩ (c_Model_pass l D cI sd ad (o_T.1, o_T.2.1, o_T.2.2.1, upd o_T.2.2.2.1 o_T.2.1.toNatClampNeg o_L.1, o_T.2.2.2.2) o_U o_O o_E o_Q o_V o_I o_C o_X o_L o_N 50 r2 hcr2) (cwV2 hts q1229 mvX8_pass rfl rfl ⟨(Nat.le_of_ble_eq_true rfl), (Nat.le_of_ble_eq_true rfl)⟩) hK hE hA hP hD hS 0 (T := TX8) (N := 48) (ci := 8) rfl rfl [0, 1, 2, 3, 4, 5, 6, 7] rfl (by decide) (mrgE rfl rfl) rfl rfl rfl rfl rfl hl.1 (Nat.le_of_ble_eq_true rfl) dX8_assign_16 ⟨Nat.zero_le _, Nat.zero_le _⟩ (fun H locs hP hD hS => ?_)
  cases hM
  exact rt_v hx hb hr hlk hP hD hS rfl dX8_assign_19

set_option maxHeartbeats 4000000 in
set_option maxRecDepth 100000 in
theorem c_Model_parameter (l : Launch) (D : va_G) (cI : ClassId) (sd : Nat → Nat) (ad : Nat → Nat) (o_O : S_MO) (o_E : S_ME) (o_Q : S_MQ) (o_V : S_MV) (o_I : S_MI) (o_C : S_MC) (o_X : S_MX) (o_L : S_ML) (o_N : S_MN) (o_T : S_MT) (o_U : S_MU) (res : S_ML × S_MN × S_MT × S_MU) (hM : f_Model_parameter o_C o_X o_L o_N o_T o_U = some res) : Ctr l D cI sd yX8_parameter (wsM yX8_parameter cX8_parameter 1 (Option.none : Option Jvm.ClassFile.FieldType)) { frames := 6, cells := 0, slots := 0, locals := 133 } [.ref (ad 100)] (wM_CXLNTU cI ad o_X o_L o_N o_T o_U o_O o_E o_Q o_V o_I o_C) (wM_CXLNTU cI ad o_X res.1 res.2.1 res.2.2.1 res.2.2.2 o_O o_E o_Q o_V o_I o_C) none := by
  refine Ctr.of (cc := cX8_parameter) (maxL := 1) (own := RX8) (by decide +kernel) rfl rfl (Nat.le_of_ble_eq_true rfl) ?_
  intro p e s m below meth c A ls hx hb hr hml hown hts hlk hK hE hA hP hD hS hl
  have hl : lv_has ls 1 [(0, .ref (ad 100))] := hl
  unfold f_Model_parameter at hM
  refine lv_aload_n hx hb dX8_parameter_0 rfl (lv_at hl 0 rfl) ?_
  refine lv_bipush (v := 14) hx hb dX8_parameter_1 (by decide) ?_
  refine lv_aload_n hx hb dX8_parameter_3 rfl (lv_at hl 0 rfl) ?_
  refine va_get (D := D) (ci := 8) (v := .int o_L.1) (C := RX8) (T := TX8) (N := 48) hx hb hts layX8 hown hK hP 0 rfl rfl 6 (by decide) (hts _ (inA q984)) (fun _ h9 => h9) rfl dX8_parameter_4 ?_
  refine lv_aload_n hx hb dX8_parameter_7 rfl (lv_at hl 0 rfl) ?_
  refine va_get (D := D) (ci := 8) (v := .int o_L.2.2.1) (C := RX8) (T := TX8) (N := 48) hx hb hts layX8 hown hK hP 0 rfl rfl 8 (by decide) (hts _ (inA q986)) (fun _ h9 => h9) rfl dX8_parameter_8 ?_
  obtain ⟨r1, hcr1, hM⟩ := ob_use hM
  refine cl_V (As := [.int 14, .int o_L.1, .int o_L.2.2.1]) (rest := []) (wM_CXLNTU cI ad o_X o_L o_N r1 o_U o_O o_E o_Q o_V o_I o_C) [] ⟨hx, hb, hml, hown, hts⟩ (c_Model_down l D cI sd ad o_C o_X o_L o_N o_U o_O o_E o_Q o_V o_I o_T 14 o_L.1 o_L.2.2.1 r1 hcr1) (cwV2 hts q1245 mvX8_down rfl rfl ⟨(Nat.le_of_ble_eq_true rfl), (Nat.le_of_ble_eq_true rfl)⟩) hK hE hA hP hD hS 0 (T := TX8) (N := 48) (ci := 8) rfl rfl [0, 8, 9, 10, 11, 12, 13, 14] rfl (by decide) (mrgE rfl rfl) rfl rfl rfl rfl rfl hl.1 (Nat.le_of_ble_eq_true rfl) dX8_parameter_11 ⟨Nat.zero_le _, Nat.zero_le _⟩ (fun H locs hP hD hS => ?_)
  refine lv_aload_n hx hb dX8_parameter_14 rfl (lv_at hl 0 rfl) ?_
  refine lv_bipush (v := 101) hx hb dX8_parameter_15 (by decide) ?_
  obtain ⟨r2, hcr2, hM⟩ := ob_use hM
  refine cl_V (As := [.int 101]) (rest := []) (wM_CXLNTU cI ad o_X o_L o_N r1 r2 o_O o_E o_Q o_V o_I o_C) [] ⟨hx, hb, hml, hown, hts⟩ (c_Model_push l D cI sd ad o_C o_X o_L o_N r1 o_O o_E o_Q o_V o_I o_U 101 r2 hcr2) (cwV2 hts q1147 mvX8_push rfl rfl ⟨(Nat.le_of_ble_eq_true rfl), (Nat.le_of_ble_eq_true rfl)⟩) hK hE hA hP hD hS 0 (T := TX8) (N := 48) (ci := 8) rfl rfl [0, 15] rfl (by decide) rfl rfl rfl rfl rfl rfl hl.1 (Nat.le_of_ble_eq_true rfl) dX8_parameter_17 ⟨Nat.zero_le _, Nat.zero_le _⟩ (fun H locs hP hD hS => ?_)
  refine lv_aload_n hx hb dX8_parameter_20 rfl (lv_at hl 0 rfl) ?_
  obtain ⟨r3, hcr3, hM⟩ := ob_use hM
  refine cl_V (As := []) (rest := []) (wM_CXLNTU cI ad o_X o_L o_N r1 r3 o_O o_E o_Q o_V o_I o_C) [] ⟨hx, hb, hml, hown, hts⟩ (c_Model_pushExpression l D cI sd ad o_C o_X o_L o_N r1 o_O o_E o_Q o_V o_I r2 r3 hcr3) (cwV2 hts q1329 mvX8_pushExpression rfl rfl ⟨(Nat.le_of_ble_eq_true rfl), (Nat.le_of_ble_eq_true rfl)⟩) hK hE hA hP hD hS 0 (T := TX8) (N := 48) (ci := 8) rfl rfl [0, 15] rfl (by decide) rfl rfl rfl rfl rfl rfl hl.1 (Nat.le_of_ble_eq_true rfl) dX8_parameter_21 ⟨Nat.zero_le _, Nat.zero_le _⟩ (fun H locs hP hD hS => ?_)
  refine lv_aload_n hx hb dX8_parameter_24 rfl (lv_at hl 0 rfl) ?_
  refine lv_bipush (v := 50) hx hb dX8_parameter_25 (by decide) ?_
  obtain ⟨r4, hcr4, hM⟩ := ob_use hM
  refine cl_V (As := [.int 50]) (rest := []) (wM_CXLNTU cI ad o_X o_L o_N r1 r4 o_O o_E o_Q o_V o_I o_C) [] ⟨hx, hb, hml, hown, hts⟩ (c_Model_push l D cI sd ad o_C o_X o_L o_N r1 o_O o_E o_Q o_V o_I r3 50 r4 hcr4) (cwV2 hts q1147 mvX8_push rfl rfl ⟨(Nat.le_of_ble_eq_true rfl), (Nat.le_of_ble_eq_true rfl)⟩) hK hE hA hP hD hS 0 (T := TX8) (N := 48) (ci := 8) rfl rfl [0, 15] rfl (by decide) rfl rfl rfl rfl rfl rfl hl.1 (Nat.le_of_ble_eq_true rfl) dX8_parameter_27 ⟨Nat.zero_le _, Nat.zero_le _⟩ (fun H locs hP hD hS => ?_)
  refine lv_aload_n hx hb dX8_parameter_30 rfl (lv_at hl 0 rfl) ?_
  refine lv_bipush (v := 80) hx hb dX8_parameter_31 (by decide) ?_
  obtain ⟨r5, hcr5, hM⟩ := ob_use hM
  refine cl_V (As := [.int 80]) (rest := []) (wM_CXLNTU cI ad o_X r5.1 r5.2 r1 r4 o_O o_E o_Q o_V o_I o_C) [] ⟨hx, hb, hml, hown, hts⟩ (c_Model_pass l D cI sd ad r1 r4 o_O o_E o_Q o_V o_I o_C o_X o_L o_N 80 r5 hcr5) (cwV2 hts q1229 mvX8_pass rfl rfl ⟨(Nat.le_of_ble_eq_true rfl), (Nat.le_of_ble_eq_true rfl)⟩) hK hE hA hP hD hS 0 (T := TX8) (N := 48) (ci := 8) rfl rfl [0, 1, 2, 3, 4, 5, 6, 7] rfl (by decide) (mrgE rfl rfl) rfl rfl rfl rfl rfl hl.1 (Nat.le_of_ble_eq_true rfl) dX8_parameter_33 ⟨Nat.zero_le _, Nat.zero_le _⟩ (fun H locs hP hD hS => ?_)
  cases hM
  exact rt_v hx hb hr hlk hP hD hS rfl dX8_parameter_36

set_option maxHeartbeats 4000000 in
set_option maxRecDepth 100000 in
theorem c_Model_elseBody (l : Launch) (D : va_G) (cI : ClassId) (sd : Nat → Nat) (ad : Nat → Nat) (o_O : S_MO) (o_E : S_ME) (o_Q : S_MQ) (o_V : S_MV) (o_I : S_MI) (o_C : S_MC) (o_X : S_MX) (o_L : S_ML) (o_N : S_MN) (o_T : S_MT) (o_U : S_MU) (res : S_ML × S_MN × S_MT × S_MU) (hM : f_Model_elseBody o_C o_X o_L o_N o_T o_U = some res) : Ctr l D cI sd yX8_elseBody (wsM yX8_elseBody cX8_elseBody 1 (Option.none : Option Jvm.ClassFile.FieldType)) { frames := 7, cells := 0, slots := 0, locals := 155 } [.ref (ad 100)] (wM_CXLNTU cI ad o_X o_L o_N o_T o_U o_O o_E o_Q o_V o_I o_C) (wM_CXLNTU cI ad o_X res.1 res.2.1 res.2.2.1 res.2.2.2 o_O o_E o_Q o_V o_I o_C) none := by
  refine Ctr.of (cc := cX8_elseBody) (maxL := 1) (own := RX8) (by decide +kernel) rfl rfl (Nat.le_of_ble_eq_true rfl) ?_
  intro p e s m below meth c A ls hx hb hr hml hown hts hlk hK hE hA hP hD hS hl
  have hl : lv_has ls 1 [(0, .ref (ad 100))] := hl
  unfold f_Model_elseBody at hM
  refine lv_aload_n hx hb dX8_elseBody_0 rfl (lv_at hl 0 rfl) ?_
  refine va_get (D := D) (ci := 8) (v := .int o_L.2.1) (C := RX8) (T := TX8) (N := 48) hx hb hts layX8 hown hK hP 0 rfl rfl 7 (by decide) (hts _ (inA q985)) (fun _ h9 => h9) rfl dX8_elseBody_1 ?_
  refine lv_bipush (v := 19) hx hb dX8_elseBody_4 (by decide) ?_
  refine lv_icmp_ne (tgt := 15) hx hb dX8_elseBody_6 (by decide) (fun c1 => ?_) (fun c1 => ?_)
  · replace hM := if_f c1 hM
    cases hM
    exact rt_v hx hb hr hlk hP hD hS rfl dX8_elseBody_15
  · replace hM := if_t c1 hM
    refine lv_aload_n hx hb dX8_elseBody_9 rfl (lv_at hl 0 rfl) ?_
    refine lv_bipush (v := 19) hx hb dX8_elseBody_10 (by decide) ?_
    obtain ⟨r2, hcr2, hM⟩ := ob_use hM
    refine cl_V (As := [.int 19]) (rest := []) (wM_CXLNTU cI ad o_X r2.1 r2.2.1 r2.2.2.1 r2.2.2.2 o_O o_E o_Q o_V o_I o_C) [] ⟨hx, hb, hml, hown, hts⟩ (c_Model_bodyBehind l D cI sd ad o_O o_E o_Q o_V o_I o_C o_X o_L o_N o_T o_U 19 r2 hcr2) (cwV2 hts q1345 mvX8_bodyBehind rfl rfl ⟨(Nat.le_of_ble_eq_true rfl), (Nat.le_of_ble_eq_true rfl)⟩) hK hE hA hP hD hS 0 (T := TX8) (N := 48) (ci := 8) rfl rfl [0, 1, 2, 3, 4, 5, 6, 7, 8, 9, 10, 11, 12, 13, 14, 15] (rng_hi (n := 16) rfl rfl) (by decide) (rng_rep (n := 16) rfl rfl rfl) rfl rfl rfl rfl rfl hl.1 (Nat.le_of_ble_eq_true rfl) dX8_elseBody_12 ⟨Nat.zero_le _, Nat.zero_le _⟩ (fun H locs hP hD hS => ?_)
    cases hM
    exact rt_v hx hb hr hlk hP hD hS rfl dX8_elseBody_15

set_option maxHeartbeats 4000000 in
set_option maxRecDepth 100000 in
theorem c_Model_ifRest (l : Launch) (D : va_G) (cI : ClassId) (sd : Nat → Nat) (ad : Nat → Nat) (o_O : S_MO) (o_E : S_ME) (o_Q : S_MQ) (o_V : S_MV) (o_I : S_MI) (o_C : S_MC) (o_X : S_MX) (o_L : S_ML) (o_N : S_MN) (o_T : S_MT) (o_U : S_MU) (res : S_ML × S_MN × S_MT × S_MU) (hM : f_Model_ifRest o_C o_X o_L o_N o_T o_U = some res) : Ctr l D cI sd yX8_ifRest (wsM yX8_ifRest cX8_ifRest 1 (Option.none : Option Jvm.ClassFile.FieldType)) { frames := 8, cells := 0, slots := 0, locals := 175 } [.ref (ad 100)] (wM_CXLNTU cI ad o_X o_L o_N o_T o_U o_O o_E o_Q o_V o_I o_C) (wM_CXLNTU cI ad o_X res.1 res.2.1 res.2.2.1 res.2.2.2 o_O o_E o_Q o_V o_I o_C) none := by
  refine Ctr.of (cc := cX8_ifRest) (maxL := 1) (own := RX8) (by decide +kernel) rfl rfl (Nat.le_of_ble_eq_true rfl) ?_
  intro p e s m below meth c A ls hx hb hr hml hown hts hlk hK hE hA hP hD hS hl
  have hl : lv_has ls 1 [(0, .ref (ad 100))] := hl
  unfold f_Model_ifRest at hM
  refine lv_aload_n hx hb dX8_ifRest_0 rfl (lv_at hl 0 rfl) ?_
  refine va_get (D := D) (ci := 8) (v := .int o_L.2.1) (C := RX8) (T := TX8) (N := 48) hx hb hts layX8 hown hK hP 0 rfl rfl 7 (by decide) (hts _ (inA q985)) (fun _ h9 => h9) rfl dX8_ifRest_1 ?_
  refine lv_bipush (v := 18) hx hb dX8_ifRest_4 (by decide) ?_
  refine lv_icmp_ne (tgt := 28) hx hb dX8_ifRest_6 (by decide) (fun c1 => ?_) (fun c1 => ?_)
  · replace hM := if_f c1 hM
    refine lv_aload_n hx hb dX8_ifRest_28 rfl (lv_at hl 0 rfl) ?_
    obtain ⟨r2, hcr2, hM⟩ := ob_use hM
    refine cl_V (As := []) (rest := []) (wM_CXLNTU cI ad o_X r2.1 r2.2.1 r2.2.2.1 r2.2.2.2 o_O o_E o_Q o_V o_I o_C) [] ⟨hx, hb, hml, hown, hts⟩ (c_Model_elseBody l D cI sd ad o_O o_E o_Q o_V o_I o_C o_X o_L o_N o_T o_U r2 hcr2) (cwV2 hts q1341 mvX8_elseBody rfl rfl ⟨(Nat.le_of_ble_eq_true rfl), (Nat.le_of_ble_eq_true rfl)⟩) hK hE hA hP hD hS 0 (T := TX8) (N := 48) (ci := 8) rfl rfl [0, 1, 2, 3, 4, 5, 6, 7, 8, 9, 10, 11, 12, 13, 14, 15] (rng_hi (n := 16) rfl rfl) (by decide) (rng_rep (n := 16) rfl rfl rfl) rfl rfl rfl rfl rfl hl.1 (Nat.le_of_ble_eq_true rfl) dX8_ifRest_29 ⟨Nat.zero_le _, Nat.zero_le _⟩ (fun H locs hP hD hS => ?_)
    cases hM
    exact rt_v hx hb hr hlk hP hD hS rfl dX8_ifRest_32
  · replace hM := if_t c1 hM
    refine lv_aload_n hx hb dX8_ifRest_9 rfl (lv_at hl 0 rfl) ?_
    refine lv_bipush (v := 117) hx hb dX8_ifRest_10 (by decide) ?_
    refine lv_bipush (v := 119) hx hb dX8_ifRest_12 (by decide) ?_
    obtain ⟨r3, hcr3, hM⟩ := ob_use hM
    refine cl_V (As := [.int 117, .int 119]) (rest := []) (wM_CXLNTU cI ad o_X o_L o_N o_T r3 o_O o_E o_Q o_V o_I o_C) [] ⟨hx, hb, hml, hown, hts⟩ (c_Model_push2 l D cI sd ad o_C o_X o_L o_N o_T o_O o_E o_Q o_V o_I o_U 117 119 r3 hcr3) (cwV2 hts q1257 mvX8_push2 rfl rfl ⟨(Nat.le_of_ble_eq_true rfl), (Nat.le_of_ble_eq_true rfl)⟩) hK hE hA hP hD hS 0 (T := TX8) (N := 48) (ci := 8) rfl rfl [0, 15] rfl (by decide) rfl rfl rfl rfl rfl rfl hl.1 (Nat.le_of_ble_eq_true rfl) dX8_ifRest_14 ⟨Nat.zero_le _, Nat.zero_le _⟩ (fun H locs hP hD hS => ?_)
    refine lv_aload_n hx hb dX8_ifRest_17 rfl (lv_at hl 0 rfl) ?_
    obtain ⟨r4, hcr4, hM⟩ := ob_use hM
    refine cl_V (As := []) (rest := []) (wM_CXLNTU cI ad o_X o_L o_N o_T r4 o_O o_E o_Q o_V o_I o_C) [] ⟨hx, hb, hml, hown, hts⟩ (c_Model_pushExpression l D cI sd ad o_C o_X o_L o_N o_T o_O o_E o_Q o_V o_I r3 r4 hcr4) (cwV2 hts q1329 mvX8_pushExpression rfl rfl ⟨(Nat.le_of_ble_eq_true rfl), (Nat.le_of_ble_eq_true rfl)⟩) hK hE hA hP hD hS 0 (T := TX8) (N := 48) (ci := 8) rfl rfl [0, 15] rfl (by decide) rfl rfl rfl rfl rfl rfl hl.1 (Nat.le_of_ble_eq_true rfl) dX8_ifRest_18 ⟨Nat.zero_le _, Nat.zero_le _⟩ (fun H locs hP hD hS => ?_)
    refine lv_aload_n hx hb dX8_ifRest_21 rfl (lv_at hl 0 rfl) ?_
    obtain ⟨r5, hcr5, hM⟩ := ob_use hM
    refine cl_V (As := []) (rest := []) (wM_CXLNTU cI ad o_X r5.1 r5.2 o_T r4 o_O o_E o_Q o_V o_I o_C) [] ⟨hx, hb, hml, hown, hts⟩ (c_Model_step l D cI sd ad o_T r4 o_O o_E o_Q o_V o_I o_C o_X o_L o_N r5 hcr5) (cwV2 hts q1151 mvX8_step rfl rfl ⟨(Nat.le_of_ble_eq_true rfl), (Nat.le_of_ble_eq_true rfl)⟩) hK hE hA hP hD hS 0 (T := TX8) (N := 48) (ci := 8) rfl rfl [0, 1, 2, 3, 4, 5, 6, 7] rfl (by decide) (mrgE rfl rfl) rfl rfl rfl rfl rfl hl.1 (Nat.le_of_ble_eq_true rfl) dX8_ifRest_22 ⟨Nat.zero_le _, Nat.zero_le _⟩ (fun H locs hP hD hS => ?_)
    refine lv_goto (tgt := 32) hx hb dX8_ifRest_25 (by decide) ?_
    cases hM
    exact rt_v hx hb hr hlk hP hD hS rfl dX8_ifRest_32

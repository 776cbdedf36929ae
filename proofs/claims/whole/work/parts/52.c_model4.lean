set_option maxHeartbeats 4000000 in
set_option maxRecDepth 100000 in
theorem c_Model_statements (l : Launch) (D : va_G) (cI : ClassId) (sd : Nat → Nat) (ad : Nat → Nat) (o_E : S_ME) (o_Q : S_MQ) (o_V : S_MV) (o_I : S_MI) (o_C : S_MC) (o_X : S_MX) (o_L : S_ML) (o_N : S_MN) (o_T : S_MT) (o_U : S_MU) (o_O : S_MO) (res : S_ML × S_MN × S_MT × S_MU × S_MO) (hM : f_Model_statements o_C o_X o_L o_N o_T o_U o_O = some res) : Ctr l D cI sd yX8_statements (wsM yX8_statements cX8_statements 1 (Option.none : Option Jvm.ClassFile.FieldType)) { frames := 6, cells := 0, slots := 0, locals := 132 } [.ref (ad 100)] (wM0 ad o_X o_L o_N o_T o_U o_O o_E o_Q o_V o_I ++ wMC cI ad o_C ++ wMX cI ad o_X ++ wMN cI ad o_N ++ wMT cI ad o_T ++ wMU cI ad o_U) (wM0 ad o_X res.1 res.2.1 res.2.2.1 res.2.2.2.1 res.2.2.2.2 o_E o_Q o_V o_I ++ wMC cI ad o_C ++ wMX cI ad o_X ++ wMN cI ad res.2.1 ++ wMT cI ad res.2.2.1 ++ wMU cI ad res.2.2.2.1) none := by
  refine Ctr.of (cc := cX8_statements) (maxL := 1) (own := RX8) (by decide +kernel) rfl rfl (Nat.le_of_ble_eq_true rfl) ?_
  intro p e s m below meth c A ls hx hb hr hml hown hts hlk hK hE hA hP hD hS hl
  have hl : lv_has ls 1 [(0, .ref (ad 100))] := hl
  unfold f_Model_statements at hM
  refine lv_aload_n hx hb dX8_statements_0 rfl (lv_at hl 0 rfl) ?_
  refine va_get (D := D) (ci := 8) (v := .int o_L.2.1) (C := RX8) (T := TX8) (N := 48) hx hb hts layX8 hown hK hP 0 rfl rfl 7 (by decide) (hts _ (inA q985)) (fun _ h9 => h9) rfl dX8_statements_1 ?_
  refine lv_bipush (v := 60) hx hb dX8_statements_4 (by decide) ?_
  refine lv_icmp_ne (tgt := 22) hx hb dX8_statements_6 (by decide) (fun c1 => ?_) (fun c1 => ?_)
  · replace hM := if_f c1 hM
    refine lv_aload_n hx hb dX8_statements_22 rfl (lv_at hl 0 rfl) ?_
    refine va_get (D := D) (ci := 8) (v := .int o_L.2.1) (C := RX8) (T := TX8) (N := 48) hx hb hts layX8 hown hK hP 0 rfl rfl 7 (by decide) (hts _ (inA q985)) (fun _ h9 => h9) rfl dX8_statements_23 ?_
    refine lv_bipush (v := 80) hx hb dX8_statements_26 (by decide) ?_
    refine lv_icmp_ne (tgt := 50) hx hb dX8_statements_28 (by decide) (fun c2 => ?_) (fun c2 => ?_)
    · replace hM := if_f c2 hM
      refine lv_aload_n hx hb dX8_statements_50 rfl (lv_at hl 0 rfl) ?_
      refine va_get (D := D) (ci := 8) (v := .int o_L.2.1) (C := RX8) (T := TX8) (N := 48) hx hb hts layX8 hown hK hP 0 rfl rfl 7 (by decide) (hts _ (inA q985)) (fun _ h9 => h9) rfl dX8_statements_51 ?_
      refine lv_bipush (v := 16) hx hb dX8_statements_54 (by decide) ?_
      refine lv_icmp_eq (tgt := 77) hx hb dX8_statements_56 (by decide) (fun c3 => ?_) (fun c3 => ?_)
      · replace hM := if_t c3 hM
        refine lv_aload_n hx hb dX8_statements_77 rfl (lv_at hl 0 rfl) ?_
        obtain ⟨r4, hcr4, hM⟩ := ob_use hM
        refine cl_V (As := []) (rest := []) (wM0 ad o_X r4.2.1 o_N o_T o_U r4.2.2 o_E o_Q o_V o_I ++ wMC cI ad o_C ++ wMX cI ad o_X ++ wMN cI ad o_N ++ wMT cI ad o_T ++ wMU cI ad o_U) (.int r4.1 :: []) ⟨hx, hb, hml, hown, hts⟩ (c_Model_opens l D cI sd ad o_C o_X o_N o_T o_U o_E o_Q o_V o_I o_L o_O r4 hcr4) (cwV2 hts q1321 mvX8_opens rfl rfl ⟨(Nat.le_of_ble_eq_true rfl), (Nat.le_of_ble_eq_true rfl)⟩) hK hE hA hP hD hS 0 (T := TX8) (N := 48) (ci := 8) rfl rfl [0] rfl (by decide) rfl rfl rfl rfl rfl rfl hl.1 (Nat.le_of_ble_eq_true rfl) dX8_statements_78 ⟨Nat.zero_le _, Nat.zero_le _⟩ (fun H locs hP hD hS => ?_)
        refine lv_if_eq (tgt := 146) hx hb dX8_statements_81 (by decide) (fun c5 => ?_) (fun c5 => ?_)
        · replace hM := if_t c5 hM
          cases hM
          exact rt_v hx hb hr hlk hP hD hS rfl dX8_statements_146
        · replace hM := if_f c5 hM
          refine lv_aload_n hx hb dX8_statements_84 rfl (lv_at hl 0 rfl) ?_
          obtain ⟨r6, hcr6, hM⟩ := ob_use hM
          refine cl_V (As := []) (rest := []) (wM0 ad o_X r6.1 r6.2.1 r6.2.2.1 r6.2.2.2 r4.2.2 o_E o_Q o_V o_I ++ wMC cI ad o_C ++ wMX cI ad o_X ++ wMN cI ad r6.2.1 ++ wMT cI ad r6.2.2.1 ++ wMU cI ad r6.2.2.2) [] ⟨hx, hb, hml, hown, hts⟩ (c_Model_compound l D cI sd ad r4.2.2 o_E o_Q o_V o_I o_C o_X r4.2.1 o_N o_T o_U r6 hcr6) (cwV2 hts q1325 mvX8_compound rfl rfl ⟨(Nat.le_of_ble_eq_true rfl), (Nat.le_of_ble_eq_true rfl)⟩) hK hE hA hP hD hS 0 (T := TX8) (N := 48) (ci := 8) rfl rfl [0, 1, 2, 3, 4, 5, 6, 7, 8, 9, 10, 11, 12, 13, 14, 15] rfl (by decide) rfl rfl rfl rfl rfl rfl hl.1 (Nat.le_of_ble_eq_true rfl) dX8_statements_85 ⟨Nat.zero_le _, Nat.zero_le _⟩ (fun H locs hP hD hS => ?_)
          refine lv_goto (tgt := 146) hx hb dX8_statements_88 (by decide) ?_
          cases hM
          exact rt_v hx hb hr hlk hP hD hS rfl dX8_statements_146
      · replace hM := if_f c3 hM
        refine lv_aload_n hx hb dX8_statements_59 rfl (lv_at hl 0 rfl) ?_
        refine va_get (D := D) (ci := 8) (v := .int o_L.2.1) (C := RX8) (T := TX8) (N := 48) hx hb hts layX8 hown hK hP 0 rfl rfl 7 (by decide) (hts _ (inA q985)) (fun _ h9 => h9) rfl dX8_statements_60 ?_
        refine lv_bipush (v := 21) hx hb dX8_statements_63 (by decide) ?_
        refine lv_icmp_eq (tgt := 77) hx hb dX8_statements_65 (by decide) (fun c7 => ?_) (fun c7 => ?_)
        · replace hM := if_t c7 hM
          refine lv_aload_n hx hb dX8_statements_77 rfl (lv_at hl 0 rfl) ?_
          obtain ⟨r8, hcr8, hM⟩ := ob_use hM
          refine cl_V (As := []) (rest := []) (wM0 ad o_X r8.2.1 o_N o_T o_U r8.2.2 o_E o_Q o_V o_I ++ wMC cI ad o_C ++ wMX cI ad o_X ++ wMN cI ad o_N ++ wMT cI ad o_T ++ wMU cI ad o_U) (.int r8.1 :: []) ⟨hx, hb, hml, hown, hts⟩ (c_Model_opens l D cI sd ad o_C o_X o_N o_T o_U o_E o_Q o_V o_I o_L o_O r8 hcr8) (cwV2 hts q1321 mvX8_opens rfl rfl ⟨(Nat.le_of_ble_eq_true rfl), (Nat.le_of_ble_eq_true rfl)⟩) hK hE hA hP hD hS 0 (T := TX8) (N := 48) (ci := 8) rfl rfl [0] rfl (by decide) rfl rfl rfl rfl rfl rfl hl.1 (Nat.le_of_ble_eq_true rfl) dX8_statements_78 ⟨Nat.zero_le _, Nat.zero_le _⟩ (fun H locs hP hD hS => ?_)
          refine lv_if_eq (tgt := 146) hx hb dX8_statements_81 (by decide) (fun c9 => ?_) (fun c9 => ?_)
          · replace hM := if_t c9 hM
            cases hM
            exact rt_v hx hb hr hlk hP hD hS rfl dX8_statements_146
          · replace hM := if_f c9 hM
            refine lv_aload_n hx hb dX8_statements_84 rfl (lv_at hl 0 rfl) ?_
            obtain ⟨r10, hcr10, hM⟩ := ob_use hM
            refine cl_V (As := []) (rest := []) (wM0 ad o_X r10.1 r10.2.1 r10.2.2.1 r10.2.2.2 r8.2.2 o_E o_Q o_V o_I ++ wMC cI ad o_C ++ wMX cI ad o_X ++ wMN cI ad r10.2.1 ++ wMT cI ad r10.2.2.1 ++ wMU cI ad r10.2.2.2) [] ⟨hx, hb, hml, hown, hts⟩ (c_Model_compound l D cI sd ad r8.2.2 o_E o_Q o_V o_I o_C o_X r8.2.1 o_N o_T o_U r10 hcr10) (cwV2 hts q1325 mvX8_compound rfl rfl ⟨(Nat.le_of_ble_eq_true rfl), (Nat.le_of_ble_eq_true rfl)⟩) hK hE hA hP hD hS 0 (T := TX8) (N := 48) (ci := 8) rfl rfl [0, 1, 2, 3, 4, 5, 6, 7, 8, 9, 10, 11, 12, 13, 14, 15] rfl (by decide) rfl rfl rfl rfl rfl rfl hl.1 (Nat.le_of_ble_eq_true rfl) dX8_statements_85 ⟨Nat.zero_le _, Nat.zero_le _⟩ (fun H locs hP hD hS => ?_)
            refine lv_goto (tgt := 146) hx hb dX8_statements_88 (by decide) ?_
            cases hM
            exact rt_v hx hb hr hlk hP hD hS rfl dX8_statements_146
        · replace hM := if_f c7 hM
          refine lv_aload_n hx hb dX8_statements_68 rfl (lv_at hl 0 rfl) ?_
          refine va_get (D := D) (ci := 8) (v := .int o_L.2.1) (C := RX8) (T := TX8) (N := 48) hx hb hts layX8 hown hK hP 0 rfl rfl 7 (by decide) (hts _ (inA q985)) (fun _ h9 => h9) rfl dX8_statements_69 ?_
          refine lv_bipush (v := 23) hx hb dX8_statements_72 (by decide) ?_
          refine lv_icmp_ne (tgt := 91) hx hb dX8_statements_74 (by decide) (fun c11 => ?_) (fun c11 => ?_)
          · replace hM := if_f c11 hM
            refine lv_aload_n hx hb dX8_statements_91 rfl (lv_at hl 0 rfl) ?_
            refine va_get (D := D) (ci := 8) (v := .int o_L.2.1) (C := RX8) (T := TX8) (N := 48) hx hb hts layX8 hown hK hP 0 rfl rfl 7 (by decide) (hts _ (inA q985)) (fun _ h9 => h9) rfl dX8_statements_92 ?_
            refine lv_bipush (v := 28) hx hb dX8_statements_95 (by decide) ?_
            refine lv_icmp_eq (tgt := 109) hx hb dX8_statements_97 (by decide) (fun c12 => ?_) (fun c12 => ?_)
            · replace hM := if_t c12 hM
              refine lv_aload_n hx hb dX8_statements_109 rfl (lv_at hl 0 rfl) ?_
              refine lv_aload_n hx hb dX8_statements_110 rfl (lv_at hl 0 rfl) ?_
              refine va_get (D := D) (ci := 8) (v := .int o_L.2.1) (C := RX8) (T := TX8) (N := 48) hx hb hts layX8 hown hK hP 0 rfl rfl 7 (by decide) (hts _ (inA q985)) (fun _ h9 => h9) rfl dX8_statements_111 ?_
              refine lv_bipush (v := 28) hx hb dX8_statements_114 (by decide) ?_
              refine lv_icmp_ne (tgt := 124) hx hb dX8_statements_116 (by decide) (fun c13 => ?_) (fun c13 => ?_)
              · replace hM := if_f c13 hM
                refine lv_bipush (v := 21) hx hb dX8_statements_124 (by decide) ?_
                refine lv_aload_n hx hb dX8_statements_126 rfl (lv_at hl 0 rfl) ?_
                refine va_get (D := D) (ci := 8) (v := .int o_L.1) (C := RX8) (T := TX8) (N := 48) hx hb hts layX8 hown hK hP 0 rfl rfl 6 (by decide) (hts _ (inA q984)) (fun _ h9 => h9) rfl dX8_statements_127 ?_
                refine lv_iconst (v := 0) hx hb dX8_statements_130 (by decide) ?_
                obtain ⟨r14, hcr14, hM⟩ := ob_use hM
                refine cl_V (As := [.int 21, .int o_L.1, .int 0]) (rest := []) (wM0 ad o_X o_L o_N r14 o_U o_O o_E o_Q o_V o_I ++ wMC cI ad o_C ++ wMX cI ad o_X ++ wMN cI ad o_N ++ wMT cI ad r14 ++ wMU cI ad o_U) [] ⟨hx, hb, hml, hown, hts⟩ (c_Model_leaf l D cI sd ad o_C o_X o_L o_N o_U o_O o_E o_Q o_V o_I o_T 21 o_L.1 0 r14 hcr14) (cwV2 hts q1277 mvX8_leaf rfl rfl ⟨(Nat.le_of_ble_eq_true rfl), (Nat.le_of_ble_eq_true rfl)⟩) hK hE hA hP hD hS 0 (T := TX8) (N := 48) (ci := 8) rfl rfl [0, 8, 9, 10, 11, 12, 13, 14] rfl (by decide) rfl rfl rfl rfl rfl rfl hl.1 (Nat.le_of_ble_eq_true rfl) dX8_statements_131 ⟨Nat.zero_le _, Nat.zero_le _⟩ (fun H locs hP hD hS => ?_)
                refine lv_aload_n hx hb dX8_statements_134 rfl (lv_at hl 0 rfl) ?_
                refine lv_bipush (v := 115) hx hb dX8_statements_135 (by decide) ?_
                refine lv_bipush (v := 60) hx hb dX8_statements_137 (by decide) ?_
                obtain ⟨r15, hcr15, hM⟩ := ob_use hM
                refine cl_V (As := [.int 115, .int 60]) (rest := []) (wM0 ad o_X o_L o_N r14 r15 o_O o_E o_Q o_V o_I ++ wMC cI ad o_C ++ wMX cI ad o_X ++ wMN cI ad o_N ++ wMT cI ad r14 ++ wMU cI ad r15) [] ⟨hx, hb, hml, hown, hts⟩ (c_Model_push2 l D cI sd ad o_C o_X o_L o_N r14 o_O o_E o_Q o_V o_I o_U 115 60 r15 hcr15) (cwV2 hts q1257 mvX8_push2 rfl rfl ⟨(Nat.le_of_ble_eq_true rfl), (Nat.le_of_ble_eq_true rfl)⟩) hK hE hA hP hD hS 0 (T := TX8) (N := 48) (ci := 8) rfl rfl [0, 15] rfl (by decide) rfl rfl rfl rfl rfl rfl hl.1 (Nat.le_of_ble_eq_true rfl) dX8_statements_139 ⟨Nat.zero_le _, Nat.zero_le _⟩ (fun H locs hP hD hS => ?_)
                refine lv_aload_n hx hb dX8_statements_142 rfl (lv_at hl 0 rfl) ?_
                obtain ⟨r16, hcr16, hM⟩ := ob_use hM
                refine cl_V (As := []) (rest := []) (wM0 ad o_X r16.1 r16.2 r14 r15 o_O o_E o_Q o_V o_I ++ wMC cI ad o_C ++ wMX cI ad o_X ++ wMN cI ad r16.2 ++ wMT cI ad r14 ++ wMU cI ad r15) [] ⟨hx, hb, hml, hown, hts⟩ (c_Model_step l D cI sd ad r14 r15 o_O o_E o_Q o_V o_I o_C o_X o_L o_N r16 hcr16) (cwV2 hts q1151 mvX8_step rfl rfl ⟨(Nat.le_of_ble_eq_true rfl), (Nat.le_of_ble_eq_true rfl)⟩) hK hE hA hP hD hS 0 (T := TX8) (N := 48) (ci := 8) rfl rfl [0, 1, 2, 3, 4, 5, 6, 7] rfl (by decide) rfl rfl rfl rfl rfl rfl hl.1 (Nat.le_of_ble_eq_true rfl) dX8_statements_143 ⟨Nat.zero_le _, Nat.zero_le _⟩ (fun H locs hP hD hS => ?_)
                cases hM
                exact rt_v hx hb hr hlk hP hD hS rfl dX8_statements_146
              · replace hM := if_t c13 hM
                refine lv_bipush (v := 20) hx hb dX8_statements_119 (by decide) ?_
                refine lv_goto (tgt := 126) hx hb dX8_statements_121 (by decide) ?_
                refine lv_aload_n hx hb dX8_statements_126 rfl (lv_at hl 0 rfl) ?_
                refine va_get (D := D) (ci := 8) (v := .int o_L.1) (C := RX8) (T := TX8) (N := 48) hx hb hts layX8 hown hK hP 0 rfl rfl 6 (by decide) (hts _ (inA q984)) (fun _ h9 => h9) rfl dX8_statements_127 ?_
                refine lv_iconst (v := 0) hx hb dX8_statements_130 (by decide) ?_
                obtain ⟨r17, hcr17, hM⟩ := ob_use hM
                refine cl_V (As := [.int 20, .int o_L.1, .int 0]) (rest := []) (wM0 ad o_X o_L o_N r17 o_U o_O o_E o_Q o_V o_I ++ wMC cI ad o_C ++ wMX cI ad o_X ++ wMN cI ad o_N ++ wMT cI ad r17 ++ wMU cI ad o_U) [] ⟨hx, hb, hml, hown, hts⟩ (c_Model_leaf l D cI sd ad o_C o_X o_L o_N o_U o_O o_E o_Q o_V o_I o_T 20 o_L.1 0 r17 hcr17) (cwV2 hts q1277 mvX8_leaf rfl rfl ⟨(Nat.le_of_ble_eq_true rfl), (Nat.le_of_ble_eq_true rfl)⟩) hK hE hA hP hD hS 0 (T := TX8) (N := 48) (ci := 8) rfl rfl [0, 8, 9, 10, 11, 12, 13, 14] rfl (by decide) rfl rfl rfl rfl rfl rfl hl.1 (Nat.le_of_ble_eq_true rfl) dX8_statements_131 ⟨Nat.zero_le _, Nat.zero_le _⟩ (fun H locs hP hD hS => ?_)
                refine lv_aload_n hx hb dX8_statements_134 rfl (lv_at hl 0 rfl) ?_
                refine lv_bipush (v := 115) hx hb dX8_statements_135 (by decide) ?_
                refine lv_bipush (v := 60) hx hb dX8_statements_137 (by decide) ?_
                obtain ⟨r18, hcr18, hM⟩ := ob_use hM
                refine cl_V (As := [.int 115, .int 60]) (rest := []) (wM0 ad o_X o_L o_N r17 r18 o_O o_E o_Q o_V o_I ++ wMC cI ad o_C ++ wMX cI ad o_X ++ wMN cI ad o_N ++ wMT cI ad r17 ++ wMU cI ad r18) [] ⟨hx, hb, hml, hown, hts⟩ (c_Model_push2 l D cI sd ad o_C o_X o_L o_N r17 o_O o_E o_Q o_V o_I o_U 115 60 r18 hcr18) (cwV2 hts q1257 mvX8_push2 rfl rfl ⟨(Nat.le_of_ble_eq_true rfl), (Nat.le_of_ble_eq_true rfl)⟩) hK hE hA hP hD hS 0 (T := TX8) (N := 48) (ci := 8) rfl rfl [0, 15] rfl (by decide) rfl rfl rfl rfl rfl rfl hl.1 (Nat.le_of_ble_eq_true rfl) dX8_statements_139 ⟨Nat.zero_le _, Nat.zero_le _⟩ (fun H locs hP hD hS => ?_)
                refine lv_aload_n hx hb dX8_statements_142 rfl (lv_at hl 0 rfl) ?_
                obtain ⟨r19, hcr19, hM⟩ := ob_use hM
                refine cl_V (As := []) (rest := []) (wM0 ad o_X r19.1 r19.2 r17 r18 o_O o_E o_Q o_V o_I ++ wMC cI ad o_C ++ wMX cI ad o_X ++ wMN cI ad r19.2 ++ wMT cI ad r17 ++ wMU cI ad r18) [] ⟨hx, hb, hml, hown, hts⟩ (c_Model_step l D cI sd ad r17 r18 o_O o_E o_Q o_V o_I o_C o_X o_L o_N r19 hcr19) (cwV2 hts q1151 mvX8_step rfl rfl ⟨(Nat.le_of_ble_eq_true rfl), (Nat.le_of_ble_eq_true rfl)⟩) hK hE hA hP hD hS 0 (T := TX8) (N := 48) (ci := 8) rfl rfl [0, 1, 2, 3, 4, 5, 6, 7] rfl (by decide) rfl rfl rfl rfl rfl rfl hl.1 (Nat.le_of_ble_eq_true rfl) dX8_statements_143 ⟨Nat.zero_le _, Nat.zero_le _⟩ (fun H locs hP hD hS => ?_)
                cases hM
                exact rt_v hx hb hr hlk hP hD hS rfl dX8_statements_146
            · replace hM := if_f c12 hM
              refine lv_aload_n hx hb dX8_statements_100 rfl (lv_at hl 0 rfl) ?_
              refine va_get (D := D) (ci := 8) (v := .int o_L.2.1) (C := RX8) (T := TX8) (N := 48) hx hb hts layX8 hown hK hP 0 rfl rfl 7 (by decide) (hts _ (inA q985)) (fun _ h9 => h9) rfl dX8_statements_101 ?_
              refine lv_bipush (v := 29) hx hb dX8_statements_104 (by decide) ?_
              refine lv_icmp_ne (tgt := 146) hx hb dX8_statements_106 (by decide) (fun c20 => ?_) (fun c20 => ?_)
              · replace hM := if_f c20 hM
                cases hM
                exact rt_v hx hb hr hlk hP hD hS rfl dX8_statements_146
              · replace hM := if_t c20 hM
                refine lv_aload_n hx hb dX8_statements_109 rfl (lv_at hl 0 rfl) ?_
                refine lv_aload_n hx hb dX8_statements_110 rfl (lv_at hl 0 rfl) ?_
                refine va_get (D := D) (ci := 8) (v := .int o_L.2.1) (C := RX8) (T := TX8) (N := 48) hx hb hts layX8 hown hK hP 0 rfl rfl 7 (by decide) (hts _ (inA q985)) (fun _ h9 => h9) rfl dX8_statements_111 ?_
                refine lv_bipush (v := 28) hx hb dX8_statements_114 (by decide) ?_
                refine lv_icmp_ne (tgt := 124) hx hb dX8_statements_116 (by decide) (fun c21 => ?_) (fun c21 => ?_)
                · replace hM := if_f c21 hM
                  refine lv_bipush (v := 21) hx hb dX8_statements_124 (by decide) ?_
                  refine lv_aload_n hx hb dX8_statements_126 rfl (lv_at hl 0 rfl) ?_
                  refine va_get (D := D) (ci := 8) (v := .int o_L.1) (C := RX8) (T := TX8) (N := 48) hx hb hts layX8 hown hK hP 0 rfl rfl 6 (by decide) (hts _ (inA q984)) (fun _ h9 => h9) rfl dX8_statements_127 ?_
                  refine lv_iconst (v := 0) hx hb dX8_statements_130 (by decide) ?_
                  obtain ⟨r22, hcr22, hM⟩ := ob_use hM
                  refine cl_V (As := [.int 21, .int o_L.1, .int 0]) (rest := []) (wM0 ad o_X o_L o_N r22 o_U o_O o_E o_Q o_V o_I ++ wMC cI ad o_C ++ wMX cI ad o_X ++ wMN cI ad o_N ++ wMT cI ad r22 ++ wMU cI ad o_U) [] ⟨hx, hb, hml, hown, hts⟩ (c_Model_leaf l D cI sd ad o_C o_X o_L o_N o_U o_O o_E o_Q o_V o_I o_T 21 o_L.1 0 r22 hcr22) (cwV2 hts q1277 mvX8_leaf rfl rfl ⟨(Nat.le_of_ble_eq_true rfl), (Nat.le_of_ble_eq_true rfl)⟩) hK hE hA hP hD hS 0 (T := TX8) (N := 48) (ci := 8) rfl rfl [0, 8, 9, 10, 11, 12, 13, 14] rfl (by decide) rfl rfl rfl rfl rfl rfl hl.1 (Nat.le_of_ble_eq_true rfl) dX8_statements_131 ⟨Nat.zero_le _, Nat.zero_le _⟩ (fun H locs hP hD hS => ?_)
                  refine lv_aload_n hx hb dX8_statements_134 rfl (lv_at hl 0 rfl) ?_
                  refine lv_bipush (v := 115) hx hb dX8_statements_135 (by decide) ?_
                  refine lv_bipush (v := 60) hx hb dX8_statements_137 (by decide) ?_
                  obtain ⟨r23, hcr23, hM⟩ := ob_use hM
                  refine cl_V (As := [.int 115, .int 60]) (rest := []) (wM0 ad o_X o_L o_N r22 r23 o_O o_E o_Q o_V o_I ++ wMC cI ad o_C ++ wMX cI ad o_X ++ wMN cI ad o_N ++ wMT cI ad r22 ++ wMU cI ad r23) [] ⟨hx, hb, hml, hown, hts⟩ (c_Model_push2 l D cI sd ad o_C o_X o_L o_N r22 o_O o_E o_Q o_V o_I o_U 115 60 r23 hcr23) (cwV2 hts q1257 mvX8_push2 rfl rfl ⟨(Nat.le_of_ble_eq_true rfl), (Nat.le_of_ble_eq_true rfl)⟩) hK hE hA hP hD hS 0 (T := TX8) (N := 48) (ci := 8) rfl rfl [0, 15] rfl (by decide) rfl rfl rfl rfl rfl rfl hl.1 (Nat.le_of_ble_eq_true rfl) dX8_statements_139 ⟨Nat.zero_le _, Nat.zero_le _⟩ (fun H locs hP hD hS => ?_)
                  refine lv_aload_n hx hb dX8_statements_142 rfl (lv_at hl 0 rfl) ?_
                  obtain ⟨r24, hcr24, hM⟩ := ob_use hM
                  refine cl_V (As := []) (rest := []) (wM0 ad o_X r24.1 r24.2 r22 r23 o_O o_E o_Q o_V o_I ++ wMC cI ad o_C ++ wMX cI ad o_X ++ wMN cI ad r24.2 ++ wMT cI ad r22 ++ wMU cI ad r23) [] ⟨hx, hb, hml, hown, hts⟩ (c_Model_step l D cI sd ad r22 r23 o_O o_E o_Q o_V o_I o_C o_X o_L o_N r24 hcr24) (cwV2 hts q1151 mvX8_step rfl rfl ⟨(Nat.le_of_ble_eq_true rfl), (Nat.le_of_ble_eq_true rfl)⟩) hK hE hA hP hD hS 0 (T := TX8) (N := 48) (ci := 8) rfl rfl [0, 1, 2, 3, 4, 5, 6, 7] rfl (by decide) rfl rfl rfl rfl rfl rfl hl.1 (Nat.le_of_ble_eq_true rfl) dX8_statements_143 ⟨Nat.zero_le _, Nat.zero_le _⟩ (fun H locs hP hD hS => ?_)
                  cases hM
                  exact rt_v hx hb hr hlk hP hD hS rfl dX8_statements_146
                · replace hM := if_t c21 hM
                  refine lv_bipush (v := 20) hx hb dX8_statements_119 (by decide) ?_
                  refine lv_goto (tgt := 126) hx hb dX8_statements_121 (by decide) ?_
                  refine lv_aload_n hx hb dX8_statements_126 rfl (lv_at hl 0 rfl) ?_
                  refine va_get (D := D) (ci := 8) (v := .int o_L.1) (C := RX8) (T := TX8) (N := 48) hx hb hts layX8 hown hK hP 0 rfl rfl 6 (by decide) (hts _ (inA q984)) (fun _ h9 => h9) rfl dX8_statements_127 ?_
                  refine lv_iconst (v := 0) hx hb dX8_statements_130 (by decide) ?_
                  obtain ⟨r25, hcr25, hM⟩ := ob_use hM
                  refine cl_V (As := [.int 20, .int o_L.1, .int 0]) (rest := []) (wM0 ad o_X o_L o_N r25 o_U o_O o_E o_Q o_V o_I ++ wMC cI ad o_C ++ wMX cI ad o_X ++ wMN cI ad o_N ++ wMT cI ad r25 ++ wMU cI ad o_U) [] ⟨hx, hb, hml, hown, hts⟩ (c_Model_leaf l D cI sd ad o_C o_X o_L o_N o_U o_O o_E o_Q o_V o_I o_T 20 o_L.1 0 r25 hcr25) (cwV2 hts q1277 mvX8_leaf rfl rfl ⟨(Nat.le_of_ble_eq_true rfl), (Nat.le_of_ble_eq_true rfl)⟩) hK hE hA hP hD hS 0 (T := TX8) (N := 48) (ci := 8) rfl rfl [0, 8, 9, 10, 11, 12, 13, 14] rfl (by decide) rfl rfl rfl rfl rfl rfl hl.1 (Nat.le_of_ble_eq_true rfl) dX8_statements_131 ⟨Nat.zero_le _, Nat.zero_le _⟩ (fun H locs hP hD hS => ?_)
                  refine lv_aload_n hx hb dX8_statements_134 rfl (lv_at hl 0 rfl) ?_
                  refine lv_bipush (v := 115) hx hb dX8_statements_135 (by decide) ?_
                  refine lv_bipush (v := 60) hx hb dX8_statements_137 (by decide) ?_
                  obtain ⟨r26, hcr26, hM⟩ := ob_use hM
                  refine cl_V (As := [.int 115, .int 60]) (rest := []) (wM0 ad o_X o_L o_N r25 r26 o_O o_E o_Q o_V o_I ++ wMC cI ad o_C ++ wMX cI ad o_X ++ wMN cI ad o_N ++ wMT cI ad r25 ++ wMU cI ad r26) [] ⟨hx, hb, hml, hown, hts⟩ (c_Model_push2 l D cI sd ad o_C o_X o_L o_N r25 o_O o_E o_Q o_V o_I o_U 115 60 r26 hcr26) (cwV2 hts q1257 mvX8_push2 rfl rfl ⟨(Nat.le_of_ble_eq_true rfl), (Nat.le_of_ble_eq_true rfl)⟩) hK hE hA hP hD hS 0 (T := TX8) (N := 48) (ci := 8) rfl rfl [0, 15] rfl (by decide) rfl rfl rfl rfl rfl rfl hl.1 (Nat.le_of_ble_eq_true rfl) dX8_statements_139 ⟨Nat.zero_le _, Nat.zero_le _⟩ (fun H locs hP hD hS => ?_)
                  refine lv_aload_n hx hb dX8_statements_142 rfl (lv_at hl 0 rfl) ?_
                  obtain ⟨r27, hcr27, hM⟩ := ob_use hM
                  refine cl_V (As := []) (rest := []) (wM0 ad o_X r27.1 r27.2 r25 r26 o_O o_E o_Q o_V o_I ++ wMC cI ad o_C ++ wMX cI ad o_X ++ wMN cI ad r27.2 ++ wMT cI ad r25 ++ wMU cI ad r26) [] ⟨hx, hb, hml, hown, hts⟩ (c_Model_step l D cI sd ad r25 r26 o_O o_E o_Q o_V o_I o_C o_X o_L o_N r27 hcr27) (cwV2 hts q1151 mvX8_step rfl rfl ⟨(Nat.le_of_ble_eq_true rfl), (Nat.le_of_ble_eq_true rfl)⟩) hK hE hA hP hD hS 0 (T := TX8) (N := 48) (ci := 8) rfl rfl [0, 1, 2, 3, 4, 5, 6, 7] rfl (by decide) rfl rfl rfl rfl rfl rfl hl.1 (Nat.le_of_ble_eq_true rfl) dX8_statements_143 ⟨Nat.zero_le _, Nat.zero_le _⟩ (fun H locs hP hD hS => ?_)
                  cases hM
                  exact rt_v hx hb hr hlk hP hD hS rfl dX8_statements_146
          · replace hM := if_t c11 hM
            refine lv_aload_n hx hb dX8_statements_77 rfl (lv_at hl 0 rfl) ?_
            obtain ⟨r28, hcr28, hM⟩ := ob_use hM
            refine cl_V (As := []) (rest := []) (wM0 ad o_X r28.2.1 o_N o_T o_U r28.2.2 o_E o_Q o_V o_I ++ wMC cI ad o_C ++ wMX cI ad o_X ++ wMN cI ad o_N ++ wMT cI ad o_T ++ wMU cI ad o_U) (.int r28.1 :: []) ⟨hx, hb, hml, hown, hts⟩ (c_Model_opens l D cI sd ad o_C o_X o_N o_T o_U o_E o_Q o_V o_I o_L o_O r28 hcr28) (cwV2 hts q1321 mvX8_opens rfl rfl ⟨(Nat.le_of_ble_eq_true rfl), (Nat.le_of_ble_eq_true rfl)⟩) hK hE hA hP hD hS 0 (T := TX8) (N := 48) (ci := 8) rfl rfl [0] rfl (by decide) rfl rfl rfl rfl rfl rfl hl.1 (Nat.le_of_ble_eq_true rfl) dX8_statements_78 ⟨Nat.zero_le _, Nat.zero_le _⟩ (fun H locs hP hD hS => ?_)
            refine lv_if_eq (tgt := 146) hx hb dX8_statements_81 (by decide) (fun c29 => ?_) (fun c29 => ?_)
            · replace hM := if_t c29 hM
              cases hM
              exact rt_v hx hb hr hlk hP hD hS rfl dX8_statements_146
            · replace hM := if_f c29 hM
              refine lv_aload_n hx hb dX8_statements_84 rfl (lv_at hl 0 rfl) ?_
              obtain ⟨r30, hcr30, hM⟩ := ob_use hM
              refine cl_V (As := []) (rest := []) (wM0 ad o_X r30.1 r30.2.1 r30.2.2.1 r30.2.2.2 r28.2.2 o_E o_Q o_V o_I ++ wMC cI ad o_C ++ wMX cI ad o_X ++ wMN cI ad r30.2.1 ++ wMT cI ad r30.2.2.1 ++ wMU cI ad r30.2.2.2) [] ⟨hx, hb, hml, hown, hts⟩ (c_Model_compound l D cI sd ad r28.2.2 o_E o_Q o_V o_I o_C o_X r28.2.1 o_N o_T o_U r30 hcr30) (cwV2 hts q1325 mvX8_compound rfl rfl ⟨(Nat.le_of_ble_eq_true rfl), (Nat.le_of_ble_eq_true rfl)⟩) hK hE hA hP hD hS 0 (T := TX8) (N := 48) (ci := 8) rfl rfl [0, 1, 2, 3, 4, 5, 6, 7, 8, 9, 10, 11, 12, 13, 14, 15] rfl (by decide) rfl rfl rfl rfl rfl rfl hl.1 (Nat.le_of_ble_eq_true rfl) dX8_statements_85 ⟨Nat.zero_le _, Nat.zero_le _⟩ (fun H locs hP hD hS => ?_)
              refine lv_goto (tgt := 146) hx hb dX8_statements_88 (by decide) ?_
              cases hM
              exact rt_v hx hb hr hlk hP hD hS rfl dX8_statements_146
    · replace hM := if_t c2 hM
      refine lv_aload_n hx hb dX8_statements_31 rfl (lv_at hl 0 rfl) ?_
      obtain ⟨r31, hcr31, hM⟩ := ob_use hM
      refine cl_V (As := []) (rest := []) (wM0 ad o_X o_L o_N o_T o_U r31 o_E o_Q o_V o_I ++ wMC cI ad o_C ++ wMX cI ad o_X ++ wMN cI ad o_N ++ wMT cI ad o_T ++ wMU cI ad o_U) [] ⟨hx, hb, hml, hown, hts⟩ (c_Model_keepName l D cI sd ad o_C o_X o_N o_T o_U o_E o_Q o_V o_I o_L o_O r31 hcr31) (cwV2 hts q1317 mvX8_keepName rfl rfl ⟨(Nat.le_of_ble_eq_true rfl), (Nat.le_of_ble_eq_true rfl)⟩) hK hE hA hP hD hS 0 (T := TX8) (N := 48) (ci := 8) rfl rfl [0] rfl (by decide) rfl rfl rfl rfl rfl rfl hl.1 (Nat.le_of_ble_eq_true rfl) dX8_statements_32 ⟨Nat.zero_le _, Nat.zero_le _⟩ (fun H locs hP hD hS => ?_)
      refine lv_aload_n hx hb dX8_statements_35 rfl (lv_at hl 0 rfl) ?_
      refine lv_bipush (v := 115) hx hb dX8_statements_36 (by decide) ?_
      refine lv_bipush (v := 116) hx hb dX8_statements_38 (by decide) ?_
      obtain ⟨r32, hcr32, hM⟩ := ob_use hM
      refine cl_V (As := [.int 115, .int 116]) (rest := []) (wM0 ad o_X o_L o_N o_T r32 r31 o_E o_Q o_V o_I ++ wMC cI ad o_C ++ wMX cI ad o_X ++ wMN cI ad o_N ++ wMT cI ad o_T ++ wMU cI ad r32) [] ⟨hx, hb, hml, hown, hts⟩ (c_Model_push2 l D cI sd ad o_C o_X o_L o_N o_T r31 o_E o_Q o_V o_I o_U 115 116 r32 hcr32) (cwV2 hts q1257 mvX8_push2 rfl rfl ⟨(Nat.le_of_ble_eq_true rfl), (Nat.le_of_ble_eq_true rfl)⟩) hK hE hA hP hD hS 0 (T := TX8) (N := 48) (ci := 8) rfl rfl [0, 15] rfl (by decide) rfl rfl rfl rfl rfl rfl hl.1 (Nat.le_of_ble_eq_true rfl) dX8_statements_40 ⟨Nat.zero_le _, Nat.zero_le _⟩ (fun H locs hP hD hS => ?_)
      refine lv_aload_n hx hb dX8_statements_43 rfl (lv_at hl 0 rfl) ?_
      obtain ⟨r33, hcr33, hM⟩ := ob_use hM
      refine cl_V (As := []) (rest := []) (wM0 ad o_X r33.1 r33.2 o_T r32 r31 o_E o_Q o_V o_I ++ wMC cI ad o_C ++ wMX cI ad o_X ++ wMN cI ad r33.2 ++ wMT cI ad o_T ++ wMU cI ad r32) [] ⟨hx, hb, hml, hown, hts⟩ (c_Model_step l D cI sd ad o_T r32 r31 o_E o_Q o_V o_I o_C o_X o_L o_N r33 hcr33) (cwV2 hts q1151 mvX8_step rfl rfl ⟨(Nat.le_of_ble_eq_true rfl), (Nat.le_of_ble_eq_true rfl)⟩) hK hE hA hP hD hS 0 (T := TX8) (N := 48) (ci := 8) rfl rfl [0, 1, 2, 3, 4, 5, 6, 7] rfl (by decide) rfl rfl rfl rfl rfl rfl hl.1 (Nat.le_of_ble_eq_true rfl) dX8_statements_44 ⟨Nat.zero_le _, Nat.zero_le _⟩ (fun H locs hP hD hS => ?_)
      refine lv_goto (tgt := 146) hx hb dX8_statements_47 (by decide) ?_
      cases hM
      exact rt_v hx hb hr hlk hP hD hS rfl dX8_statements_146
  · replace hM := if_t c1 hM
    refine lv_aload_n hx hb dX8_statements_9 rfl (lv_at hl 0 rfl) ?_
    refine lv_bipush (v := 115) hx hb dX8_statements_10 (by decide) ?_
    obtain ⟨r34, hcr34, hM⟩ := ob_use hM
    refine cl_V (As := [.int 115]) (rest := []) (wM0 ad o_X o_L o_N o_T r34 o_O o_E o_Q o_V o_I ++ wMC cI ad o_C ++ wMX cI ad o_X ++ wMN cI ad o_N ++ wMT cI ad o_T ++ wMU cI ad r34) [] ⟨hx, hb, hml, hown, hts⟩ (c_Model_push l D cI sd ad o_C o_X o_L o_N o_T o_O o_E o_Q o_V o_I o_U 115 r34 hcr34) (cwV2 hts q1147 mvX8_push rfl rfl ⟨(Nat.le_of_ble_eq_true rfl), (Nat.le_of_ble_eq_true rfl)⟩) hK hE hA hP hD hS 0 (T := TX8) (N := 48) (ci := 8) rfl rfl [0, 15] rfl (by decide) rfl rfl rfl rfl rfl rfl hl.1 (Nat.le_of_ble_eq_true rfl) dX8_statements_12 ⟨Nat.zero_le _, Nat.zero_le _⟩ (fun H locs hP hD hS => ?_)
    refine lv_aload_n hx hb dX8_statements_15 rfl (lv_at hl 0 rfl) ?_
    obtain ⟨r35, hcr35, hM⟩ := ob_use hM
    refine cl_V (As := []) (rest := []) (wM0 ad o_X r35.1 r35.2 o_T r34 o_O o_E o_Q o_V o_I ++ wMC cI ad o_C ++ wMX cI ad o_X ++ wMN cI ad r35.2 ++ wMT cI ad o_T ++ wMU cI ad r34) [] ⟨hx, hb, hml, hown, hts⟩ (c_Model_step l D cI sd ad o_T r34 o_O o_E o_Q o_V o_I o_C o_X o_L o_N r35 hcr35) (cwV2 hts q1151 mvX8_step rfl rfl ⟨(Nat.le_of_ble_eq_true rfl), (Nat.le_of_ble_eq_true rfl)⟩) hK hE hA hP hD hS 0 (T := TX8) (N := 48) (ci := 8) rfl rfl [0, 1, 2, 3, 4, 5, 6, 7] rfl (by decide) rfl rfl rfl rfl rfl rfl hl.1 (Nat.le_of_ble_eq_true rfl) dX8_statements_16 ⟨Nat.zero_le _, Nat.zero_le _⟩ (fun H locs hP hD hS => ?_)
    refine lv_goto (tgt := 146) hx hb dX8_statements_19 (by decide) ?_
    cases hM
    exact rt_v hx hb hr hlk hP hD hS rfl dX8_statements_146

set_option maxHeartbeats 4000000 in
set_option maxRecDepth 100000 in
theorem c_Model_up (l : Launch) (D : va_G) (cI : ClassId) (sd : Nat → Nat) (ad : Nat → Nat) (o_C : S_MC) (o_X : S_MX) (o_L : S_ML) (o_N : S_MN) (o_U : S_MU) (o_O : S_MO) (o_E : S_ME) (o_Q : S_MQ) (o_V : S_MV) (o_I : S_MI) (o_T : S_MT) (res : S_MT) (hM : f_Model_up o_T = some res) : Ctr l D cI sd yX8_up (wsM yX8_up cX8_up 1 (Option.none : Option Jvm.ClassFile.FieldType)) { frames := 0, cells := 0, slots := 0, locals := 0 } [.ref (ad 100)] (wM0 ad o_X o_L o_N o_T o_U o_O o_E o_Q o_V o_I ++ wMT cI ad o_T) (wM0 ad o_X o_L o_N res o_U o_O o_E o_Q o_V o_I ++ wMT cI ad res) none := by
  refine Ctr.of (cc := cX8_up) (maxL := 1) (own := RX8) (by decide +kernel) rfl rfl (Nat.le_of_ble_eq_true rfl) ?_
  intro p e s m below meth c A ls hx hb hr hml hown hts hlk hK hE hA hP hD hS hl
  have hl : lv_has ls 1 [(0, .ref (ad 100))] := hl
  unfold f_Model_up at hM
  refine lv_aload_n hx hb dX8_up_0 rfl (lv_at hl 0 rfl) ?_
  refine lv_aload_n hx hb dX8_up_1 rfl (lv_at hl 0 rfl) ?_
  refine va_get (D := D) (ci := 8) (v := .ref (ad 111)) (C := RX8) (T := TX8) (N := 48) hx hb hts layX8 hown hK hP 0 rfl rfl 20 (by decide) (hts _ (inA q998)) (fun _ h9 => h9) rfl dX8_up_2 ?_
  refine lv_aload_n hx hb dX8_up_5 rfl (lv_at hl 0 rfl) ?_
  refine va_get (D := D) (ci := 8) (v := .int o_T.2.1) (C := RX8) (T := TX8) (N := 48) hx hb hts layX8 hown hK hP 0 rfl rfl 24 (by decide) (hts _ (inA q1002)) (fun _ h9 => h9) rfl dX8_up_6 ?_
  obtain ⟨b1, hM⟩ := gd_use hM
  refine va_iald hx hb hK hP 4 0 rfl rfl b1 dX8_up_9 ?_
  refine lv_topi (fun x2 ex2 => ?_)
  replace hM := nm_use ex2 hM
  refine va_put (D := D) (ci := 8) (v := .int x2) (ty := .int) (C := RX8) (T := TX8) (N := 48) hx hb hts layX8 tyX8 tyX8_ok nmX8 hown hK hP hD hS 0 rfl rfl 24 (by decide) (hts _ (inA q1002)) (fun _ h9 => h9) rfl (by decide +kernel) rfl rfl (Nat.le_of_ble_eq_true rfl) dX8_up_10 (fun H locs hP hD hS => ?_)
  have hP : va_P D vwCl (wM0 ad o_X o_L o_N (o_T.1, x2, o_T.2.2) o_U o_O o_E o_Q o_V o_I ++ wMT cI ad (o_T.1, x2, o_T.2.2)) H := hP
  have hD : va_D A (wM0 ad o_X o_L o_N (o_T.1, x2, o_T.2.2) o_U o_O o_E o_Q o_V o_I ++ wMT cI ad (o_T.1, x2, o_T.2.2)) := hD
  cases hM
  exact rt_v hx hb hr hlk hP hD hS rfl dX8_up_13

set_option maxHeartbeats 4000000 in
set_option maxRecDepth 100000 in
theorem c_Model_behindName (l : Launch) (D : va_G) (cI : ClassId) (sd : Nat → Nat) (ad : Nat → Nat) (o_E : S_ME) (o_Q : S_MQ) (o_V : S_MV) (o_I : S_MI) (o_C : S_MC) (o_X : S_MX) (o_L : S_ML) (o_N : S_MN) (o_T : S_MT) (o_U : S_MU) (o_O : S_MO) (res : S_ML × S_MN × S_MT × S_MU × S_MO) (hM : f_Model_behindName o_C o_X o_L o_N o_T o_U o_O = some res) : Ctr l D cI sd yX8_behindName (wsM yX8_behindName cX8_behindName 1 (Option.none : Option Jvm.ClassFile.FieldType)) { frames := 5, cells := 0, slots := 0, locals := 112 } [.ref (ad 100)] (wM0 ad o_X o_L o_N o_T o_U o_O o_E o_Q o_V o_I ++ wMC cI ad o_C ++ wMX cI ad o_X ++ wMN cI ad o_N ++ wMT cI ad o_T ++ wMU cI ad o_U) (wM0 ad o_X res.1 res.2.1 res.2.2.1 res.2.2.2.1 res.2.2.2.2 o_E o_Q o_V o_I ++ wMC cI ad o_C ++ wMX cI ad o_X ++ wMN cI ad res.2.1 ++ wMT cI ad res.2.2.1 ++ wMU cI ad res.2.2.2.1) none := by
  refine Ctr.of (cc := cX8_behindName) (maxL := 1) (own := RX8) (by decide +kernel) rfl rfl (Nat.le_of_ble_eq_true rfl) ?_
  intro p e s m below meth c A ls hx hb hr hml hown hts hlk hK hE hA hP hD hS hl
  have hl : lv_has ls 1 [(0, .ref (ad 100))] := hl
  unfold f_Model_behindName at hM
  refine lv_aload_n hx hb dX8_behindName_0 rfl (lv_at hl 0 rfl) ?_
  refine va_get (D := D) (ci := 8) (v := .int o_L.2.1) (C := RX8) (T := TX8) (N := 48) hx hb hts layX8 hown hK hP 0 rfl rfl 7 (by decide) (hts _ (inA q985)) (fun _ h9 => h9) rfl dX8_behindName_1 ?_
  refine lv_bipush (v := 50) hx hb dX8_behindName_4 (by decide) ?_
  refine lv_icmp_ne (tgt := 53) hx hb dX8_behindName_6 (by decide) (fun c1 => ?_) (fun c1 => ?_)
  · replace hM := if_f c1 hM
    refine lv_aload_n hx hb dX8_behindName_53 rfl (lv_at hl 0 rfl) ?_
    refine va_get (D := D) (ci := 8) (v := .int o_L.2.1) (C := RX8) (T := TX8) (N := 48) hx hb hts layX8 hown hK hP 0 rfl rfl 7 (by decide) (hts _ (inA q985)) (fun _ h9 => h9) rfl dX8_behindName_54 ?_
    refine lv_bipush (v := 57) hx hb dX8_behindName_57 (by decide) ?_
    refine lv_icmp_ne (tgt := 127) hx hb dX8_behindName_59 (by decide) (fun c2 => ?_) (fun c2 => ?_)
    · replace hM := if_f c2 hM
      refine lv_aload_n hx hb dX8_behindName_127 rfl (lv_at hl 0 rfl) ?_
      refine va_get (D := D) (ci := 8) (v := .int o_L.2.1) (C := RX8) (T := TX8) (N := 48) hx hb hts layX8 hown hK hP 0 rfl rfl 7 (by decide) (hts _ (inA q985)) (fun _ h9 => h9) rfl dX8_behindName_128 ?_
      refine lv_bipush (v := 55) hx hb dX8_behindName_131 (by decide) ?_
      refine lv_icmp_ne (tgt := 178) hx hb dX8_behindName_133 (by decide) (fun c3 => ?_) (fun c3 => ?_)
      · replace hM := if_f c3 hM
        refine lv_aload_n hx hb dX8_behindName_178 rfl (lv_at hl 0 rfl) ?_
        obtain ⟨r4, hcr4, hM⟩ := ob_use hM
        refine cl_V (As := []) (rest := []) (wM0 ad o_X r4 o_N o_T o_U o_O o_E o_Q o_V o_I ++ wMC cI ad o_C ++ wMX cI ad o_X ++ wMN cI ad o_N ++ wMT cI ad o_T ++ wMU cI ad o_U) [] ⟨hx, hb, hml, hown, hts⟩ (c_Model_wrong l D cI sd ad o_C o_X o_N o_T o_U o_O o_E o_Q o_V o_I o_L r4 hcr4) (cwV2 hts q1233 mvX8_wrong rfl rfl ⟨(Nat.le_of_ble_eq_true rfl), (Nat.le_of_ble_eq_true rfl)⟩) hK hE hA hP hD hS 0 (T := TX8) (N := 48) (ci := 8) rfl rfl [0] rfl (by decide) rfl rfl rfl rfl rfl rfl hl.1 (Nat.le_of_ble_eq_true rfl) dX8_behindName_179 ⟨Nat.zero_le _, Nat.zero_le _⟩ (fun H locs hP hD hS => ?_)
        cases hM
        exact rt_v hx hb hr hlk hP hD hS rfl dX8_behindName_182
      · replace hM := if_t c3 hM
        refine lv_aload_n hx hb dX8_behindName_136 rfl (lv_at hl 0 rfl) ?_
        obtain ⟨r5, hcr5, hM⟩ := ob_use hM
        refine cl_V (As := []) (rest := []) (wM0 ad o_X r5.2.1 o_N o_T o_U r5.2.2 o_E o_Q o_V o_I ++ wMC cI ad o_C ++ wMX cI ad o_X ++ wMN cI ad o_N ++ wMT cI ad o_T ++ wMU cI ad o_U) (.int r5.1 :: []) ⟨hx, hb, hml, hown, hts⟩ (c_Model_opens l D cI sd ad o_C o_X o_N o_T o_U o_E o_Q o_V o_I o_L o_O r5 hcr5) (cwV2 hts q1321 mvX8_opens rfl rfl ⟨(Nat.le_of_ble_eq_true rfl), (Nat.le_of_ble_eq_true rfl)⟩) hK hE hA hP hD hS 0 (T := TX8) (N := 48) (ci := 8) rfl rfl [0] rfl (by decide) rfl rfl rfl rfl rfl rfl hl.1 (Nat.le_of_ble_eq_true rfl) dX8_behindName_137 ⟨Nat.zero_le _, Nat.zero_le _⟩ (fun H locs hP hD hS => ?_)
        refine lv_if_eq (tgt := 182) hx hb dX8_behindName_140 (by decide) (fun c6 => ?_) (fun c6 => ?_)
        · replace hM := if_t c6 hM
          cases hM
          exact rt_v hx hb hr hlk hP hD hS rfl dX8_behindName_182
        · replace hM := if_f c6 hM
          refine lv_aload_n hx hb dX8_behindName_143 rfl (lv_at hl 0 rfl) ?_
          refine lv_bipush (v := 13) hx hb dX8_behindName_144 (by decide) ?_
          refine lv_aload_n hx hb dX8_behindName_146 rfl (lv_at hl 0 rfl) ?_
          refine va_get (D := D) (ci := 8) (v := .int r5.2.2.2.2.2.1) (C := RX8) (T := TX8) (N := 48) hx hb hts layX8 hown hK hP 0 rfl rfl 30 (by decide) (hts _ (inA q1008)) (fun _ h9 => h9) rfl dX8_behindName_147 ?_
          refine lv_aload_n hx hb dX8_behindName_150 rfl (lv_at hl 0 rfl) ?_
          refine va_get (D := D) (ci := 8) (v := .int r5.2.2.2.2.2.2.1) (C := RX8) (T := TX8) (N := 48) hx hb hts layX8 hown hK hP 0 rfl rfl 31 (by decide) (hts _ (inA q1009)) (fun _ h9 => h9) rfl dX8_behindName_151 ?_
          obtain ⟨r7, hcr7, hM⟩ := ob_use hM
          refine cl_V (As := [.int 13, .int r5.2.2.2.2.2.1, .int r5.2.2.2.2.2.2.1]) (rest := []) (wM0 ad o_X r5.2.1 o_N r7 o_U r5.2.2 o_E o_Q o_V o_I ++ wMC cI ad o_C ++ wMX cI ad o_X ++ wMN cI ad o_N ++ wMT cI ad r7 ++ wMU cI ad o_U) [] ⟨hx, hb, hml, hown, hts⟩ (c_Model_down l D cI sd ad o_C o_X r5.2.1 o_N o_U r5.2.2 o_E o_Q o_V o_I o_T 13 r5.2.2.2.2.2.1 r5.2.2.2.2.2.2.1 r7 hcr7) (cwV2 hts q1245 mvX8_down rfl rfl ⟨(Nat.le_of_ble_eq_true rfl), (Nat.le_of_ble_eq_true rfl)⟩) hK hE hA hP hD hS 0 (T := TX8) (N := 48) (ci := 8) rfl rfl [0, 8, 9, 10, 11, 12, 13, 14] rfl (by decide) rfl rfl rfl rfl rfl rfl hl.1 (Nat.le_of_ble_eq_true rfl) dX8_behindName_154 ⟨Nat.zero_le _, Nat.zero_le _⟩ (fun H locs hP hD hS => ?_)
          refine lv_aload_n hx hb dX8_behindName_157 rfl (lv_at hl 0 rfl) ?_
          refine lv_bipush (v := 101) hx hb dX8_behindName_158 (by decide) ?_
          refine lv_bipush (v := 60) hx hb dX8_behindName_160 (by decide) ?_
          refine lv_sipush (v := 130) hx hb dX8_behindName_162 (by decide) ?_
          refine lv_sipush (v := 131) hx hb dX8_behindName_165 (by decide) ?_
          obtain ⟨r8, hcr8, hM⟩ := ob_use hM
          refine cl_V (As := [.int 101, .int 60, .int 130, .int 131]) (rest := []) (wM0 ad o_X r5.2.1 o_N r7 r8 r5.2.2 o_E o_Q o_V o_I ++ wMC cI ad o_C ++ wMX cI ad o_X ++ wMN cI ad o_N ++ wMT cI ad r7 ++ wMU cI ad r8) [] ⟨hx, hb, hml, hown, hts⟩ (c_Model_push4 l D cI sd ad o_C o_X r5.2.1 o_N r7 r5.2.2 o_E o_Q o_V o_I o_U 101 60 130 131 r8 hcr8) (cwV2 hts q1253 mvX8_push4 rfl rfl ⟨(Nat.le_of_ble_eq_true rfl), (Nat.le_of_ble_eq_true rfl)⟩) hK hE hA hP hD hS 0 (T := TX8) (N := 48) (ci := 8) rfl rfl [0, 15] rfl (by decide) rfl rfl rfl rfl rfl rfl hl.1 (Nat.le_of_ble_eq_true rfl) dX8_behindName_168 ⟨Nat.zero_le _, Nat.zero_le _⟩ (fun H locs hP hD hS => ?_)
          refine lv_aload_n hx hb dX8_behindName_171 rfl (lv_at hl 0 rfl) ?_
          obtain ⟨r9, hcr9, hM⟩ := ob_use hM
          refine cl_V (As := []) (rest := []) (wM0 ad o_X r9.1 r9.2 r7 r8 r5.2.2 o_E o_Q o_V o_I ++ wMC cI ad o_C ++ wMX cI ad o_X ++ wMN cI ad r9.2 ++ wMT cI ad r7 ++ wMU cI ad r8) [] ⟨hx, hb, hml, hown, hts⟩ (c_Model_step l D cI sd ad r7 r8 r5.2.2 o_E o_Q o_V o_I o_C o_X r5.2.1 o_N r9 hcr9) (cwV2 hts q1151 mvX8_step rfl rfl ⟨(Nat.le_of_ble_eq_true rfl), (Nat.le_of_ble_eq_true rfl)⟩) hK hE hA hP hD hS 0 (T := TX8) (N := 48) (ci := 8) rfl rfl [0, 1, 2, 3, 4, 5, 6, 7] rfl (by decide) rfl rfl rfl rfl rfl rfl hl.1 (Nat.le_of_ble_eq_true rfl) dX8_behindName_172 ⟨Nat.zero_le _, Nat.zero_le _⟩ (fun H locs hP hD hS => ?_)
          refine lv_goto (tgt := 182) hx hb dX8_behindName_175 (by decide) ?_
          cases hM
          exact rt_v hx hb hr hlk hP hD hS rfl dX8_behindName_182
    · replace hM := if_t c2 hM
      refine lv_aload_n hx hb dX8_behindName_62 rfl (lv_at hl 0 rfl) ?_
      obtain ⟨r10, hcr10, hM⟩ := ob_use hM
      refine cl_V (As := []) (rest := []) (wM0 ad o_X r10.2.1 o_N o_T o_U r10.2.2 o_E o_Q o_V o_I ++ wMC cI ad o_C ++ wMX cI ad o_X ++ wMN cI ad o_N ++ wMT cI ad o_T ++ wMU cI ad o_U) (.int r10.1 :: []) ⟨hx, hb, hml, hown, hts⟩ (c_Model_opens l D cI sd ad o_C o_X o_N o_T o_U o_E o_Q o_V o_I o_L o_O r10 hcr10) (cwV2 hts q1321 mvX8_opens rfl rfl ⟨(Nat.le_of_ble_eq_true rfl), (Nat.le_of_ble_eq_true rfl)⟩) hK hE hA hP hD hS 0 (T := TX8) (N := 48) (ci := 8) rfl rfl [0] rfl (by decide) rfl rfl rfl rfl rfl rfl hl.1 (Nat.le_of_ble_eq_true rfl) dX8_behindName_63 ⟨Nat.zero_le _, Nat.zero_le _⟩ (fun H locs hP hD hS => ?_)
      refine lv_if_eq (tgt := 182) hx hb dX8_behindName_66 (by decide) (fun c11 => ?_) (fun c11 => ?_)
      · replace hM := if_t c11 hM
        cases hM
        exact rt_v hx hb hr hlk hP hD hS rfl dX8_behindName_182
      · replace hM := if_f c11 hM
        refine lv_aload_n hx hb dX8_behindName_69 rfl (lv_at hl 0 rfl) ?_
        refine lv_bipush (v := 12) hx hb dX8_behindName_70 (by decide) ?_
        refine lv_aload_n hx hb dX8_behindName_72 rfl (lv_at hl 0 rfl) ?_
        refine va_get (D := D) (ci := 8) (v := .int r10.2.1.1) (C := RX8) (T := TX8) (N := 48) hx hb hts layX8 hown hK hP 0 rfl rfl 6 (by decide) (hts _ (inA q984)) (fun _ h9 => h9) rfl dX8_behindName_73 ?_
        refine lv_iconst (v := 0) hx hb dX8_behindName_76 (by decide) ?_
        obtain ⟨r12, hcr12, hM⟩ := ob_use hM
        refine cl_V (As := [.int 12, .int r10.2.1.1, .int 0]) (rest := []) (wM0 ad o_X r10.2.1 o_N r12 o_U r10.2.2 o_E o_Q o_V o_I ++ wMC cI ad o_C ++ wMX cI ad o_X ++ wMN cI ad o_N ++ wMT cI ad r12 ++ wMU cI ad o_U) [] ⟨hx, hb, hml, hown, hts⟩ (c_Model_down l D cI sd ad o_C o_X r10.2.1 o_N o_U r10.2.2 o_E o_Q o_V o_I o_T 12 r10.2.1.1 0 r12 hcr12) (cwV2 hts q1245 mvX8_down rfl rfl ⟨(Nat.le_of_ble_eq_true rfl), (Nat.le_of_ble_eq_true rfl)⟩) hK hE hA hP hD hS 0 (T := TX8) (N := 48) (ci := 8) rfl rfl [0, 8, 9, 10, 11, 12, 13, 14] rfl (by decide) rfl rfl rfl rfl rfl rfl hl.1 (Nat.le_of_ble_eq_true rfl) dX8_behindName_77 ⟨Nat.zero_le _, Nat.zero_le _⟩ (fun H locs hP hD hS => ?_)
        refine lv_aload_n hx hb dX8_behindName_80 rfl (lv_at hl 0 rfl) ?_
        refine lv_bipush (v := 32) hx hb dX8_behindName_81 (by decide) ?_
        refine lv_aload_n hx hb dX8_behindName_83 rfl (lv_at hl 0 rfl) ?_
        refine va_get (D := D) (ci := 8) (v := .int r10.2.2.2.2.2.1) (C := RX8) (T := TX8) (N := 48) hx hb hts layX8 hown hK hP 0 rfl rfl 30 (by decide) (hts _ (inA q1008)) (fun _ h9 => h9) rfl dX8_behindName_84 ?_
        refine lv_aload_n hx hb dX8_behindName_87 rfl (lv_at hl 0 rfl) ?_
        refine va_get (D := D) (ci := 8) (v := .int r10.2.2.2.2.2.2.1) (C := RX8) (T := TX8) (N := 48) hx hb hts layX8 hown hK hP 0 rfl rfl 31 (by decide) (hts _ (inA q1009)) (fun _ h9 => h9) rfl dX8_behindName_88 ?_
        obtain ⟨r13, hcr13, hM⟩ := ob_use hM
        refine cl_V (As := [.int 32, .int r10.2.2.2.2.2.1, .int r10.2.2.2.2.2.2.1]) (rest := []) (wM0 ad o_X r10.2.1 o_N r13 o_U r10.2.2 o_E o_Q o_V o_I ++ wMC cI ad o_C ++ wMX cI ad o_X ++ wMN cI ad o_N ++ wMT cI ad r13 ++ wMU cI ad o_U) [] ⟨hx, hb, hml, hown, hts⟩ (c_Model_down l D cI sd ad o_C o_X r10.2.1 o_N o_U r10.2.2 o_E o_Q o_V o_I r12 32 r10.2.2.2.2.2.1 r10.2.2.2.2.2.2.1 r13 hcr13) (cwV2 hts q1245 mvX8_down rfl rfl ⟨(Nat.le_of_ble_eq_true rfl), (Nat.le_of_ble_eq_true rfl)⟩) hK hE hA hP hD hS 0 (T := TX8) (N := 48) (ci := 8) rfl rfl [0, 8, 9, 10, 11, 12, 13, 14] rfl (by decide) rfl rfl rfl rfl rfl rfl hl.1 (Nat.le_of_ble_eq_true rfl) dX8_behindName_91 ⟨Nat.zero_le _, Nat.zero_le _⟩ (fun H locs hP hD hS => ?_)
        refine lv_aload_n hx hb dX8_behindName_94 rfl (lv_at hl 0 rfl) ?_
        refine lv_bipush (v := 101) hx hb dX8_behindName_95 (by decide) ?_
        refine lv_bipush (v := 60) hx hb dX8_behindName_97 (by decide) ?_
        obtain ⟨r14, hcr14, hM⟩ := ob_use hM
        refine cl_V (As := [.int 101, .int 60]) (rest := []) (wM0 ad o_X r10.2.1 o_N r13 r14 r10.2.2 o_E o_Q o_V o_I ++ wMC cI ad o_C ++ wMX cI ad o_X ++ wMN cI ad o_N ++ wMT cI ad r13 ++ wMU cI ad r14) [] ⟨hx, hb, hml, hown, hts⟩ (c_Model_push2 l D cI sd ad o_C o_X r10.2.1 o_N r13 r10.2.2 o_E o_Q o_V o_I o_U 101 60 r14 hcr14) (cwV2 hts q1257 mvX8_push2 rfl rfl ⟨(Nat.le_of_ble_eq_true rfl), (Nat.le_of_ble_eq_true rfl)⟩) hK hE hA hP hD hS 0 (T := TX8) (N := 48) (ci := 8) rfl rfl [0, 15] rfl (by decide) rfl rfl rfl rfl rfl rfl hl.1 (Nat.le_of_ble_eq_true rfl) dX8_behindName_99 ⟨Nat.zero_le _, Nat.zero_le _⟩ (fun H locs hP hD hS => ?_)
        refine lv_aload_n hx hb dX8_behindName_102 rfl (lv_at hl 0 rfl) ?_
        obtain ⟨r15, hcr15, hM⟩ := ob_use hM
        refine cl_V (As := []) (rest := []) (wM0 ad o_X r10.2.1 o_N r13 r15 r10.2.2 o_E o_Q o_V o_I ++ wMC cI ad o_C ++ wMX cI ad o_X ++ wMN cI ad o_N ++ wMT cI ad r13 ++ wMU cI ad r15) [] ⟨hx, hb, hml, hown, hts⟩ (c_Model_pushExpression l D cI sd ad o_C o_X r10.2.1 o_N r13 r10.2.2 o_E o_Q o_V o_I r14 r15 hcr15) (cwV2 hts q1329 mvX8_pushExpression rfl rfl ⟨(Nat.le_of_ble_eq_true rfl), (Nat.le_of_ble_eq_true rfl)⟩) hK hE hA hP hD hS 0 (T := TX8) (N := 48) (ci := 8) rfl rfl [0, 15] rfl (by decide) rfl rfl rfl rfl rfl rfl hl.1 (Nat.le_of_ble_eq_true rfl) dX8_behindName_103 ⟨Nat.zero_le _, Nat.zero_le _⟩ (fun H locs hP hD hS => ?_)
        refine lv_aload_n hx hb dX8_behindName_106 rfl (lv_at hl 0 rfl) ?_
        refine lv_sipush (v := 128) hx hb dX8_behindName_107 (by decide) ?_
        refine lv_sipush (v := 129) hx hb dX8_behindName_110 (by decide) ?_
        obtain ⟨r16, hcr16, hM⟩ := ob_use hM
        refine cl_V (As := [.int 128, .int 129]) (rest := []) (wM0 ad o_X r10.2.1 o_N r13 r16 r10.2.2 o_E o_Q o_V o_I ++ wMC cI ad o_C ++ wMX cI ad o_X ++ wMN cI ad o_N ++ wMT cI ad r13 ++ wMU cI ad r16) [] ⟨hx, hb, hml, hown, hts⟩ (c_Model_push2 l D cI sd ad o_C o_X r10.2.1 o_N r13 r10.2.2 o_E o_Q o_V o_I r15 128 129 r16 hcr16) (cwV2 hts q1257 mvX8_push2 rfl rfl ⟨(Nat.le_of_ble_eq_true rfl), (Nat.le_of_ble_eq_true rfl)⟩) hK hE hA hP hD hS 0 (T := TX8) (N := 48) (ci := 8) rfl rfl [0, 15] rfl (by decide) rfl rfl rfl rfl rfl rfl hl.1 (Nat.le_of_ble_eq_true rfl) dX8_behindName_113 ⟨Nat.zero_le _, Nat.zero_le _⟩ (fun H locs hP hD hS => ?_)
        refine lv_aload_n hx hb dX8_behindName_116 rfl (lv_at hl 0 rfl) ?_
        obtain ⟨r17, hcr17, hM⟩ := ob_use hM
        refine cl_V (As := []) (rest := []) (wM0 ad o_X r10.2.1 o_N r13 r17 r10.2.2 o_E o_Q o_V o_I ++ wMC cI ad o_C ++ wMX cI ad o_X ++ wMN cI ad o_N ++ wMT cI ad r13 ++ wMU cI ad r17) [] ⟨hx, hb, hml, hown, hts⟩ (c_Model_pushExpression l D cI sd ad o_C o_X r10.2.1 o_N r13 r10.2.2 o_E o_Q o_V o_I r16 r17 hcr17) (cwV2 hts q1329 mvX8_pushExpression rfl rfl ⟨(Nat.le_of_ble_eq_true rfl), (Nat.le_of_ble_eq_true rfl)⟩) hK hE hA hP hD hS 0 (T := TX8) (N := 48) (ci := 8) rfl rfl [0, 15] rfl (by decide) rfl rfl rfl rfl rfl rfl hl.1 (Nat.le_of_ble_eq_true rfl) dX8_behindName_117 ⟨Nat.zero_le _, Nat.zero_le _⟩ (fun H locs hP hD hS => ?_)
        refine lv_aload_n hx hb dX8_behindName_120 rfl (lv_at hl 0 rfl) ?_
        obtain ⟨r18, hcr18, hM⟩ := ob_use hM
        refine cl_V (As := []) (rest := []) (wM0 ad o_X r18.1 r18.2 r13 r17 r10.2.2 o_E o_Q o_V o_I ++ wMC cI ad o_C ++ wMX cI ad o_X ++ wMN cI ad r18.2 ++ wMT cI ad r13 ++ wMU cI ad r17) [] ⟨hx, hb, hml, hown, hts⟩ (c_Model_step l D cI sd ad r13 r17 r10.2.2 o_E o_Q o_V o_I o_C o_X r10.2.1 o_N r18 hcr18) (cwV2 hts q1151 mvX8_step rfl rfl ⟨(Nat.le_of_ble_eq_true rfl), (Nat.le_of_ble_eq_true rfl)⟩) hK hE hA hP hD hS 0 (T := TX8) (N := 48) (ci := 8) rfl rfl [0, 1, 2, 3, 4, 5, 6, 7] rfl (by decide) rfl rfl rfl rfl rfl rfl hl.1 (Nat.le_of_ble_eq_true rfl) dX8_behindName_121 ⟨Nat.zero_le _, Nat.zero_le _⟩ (fun H locs hP hD hS => ?_)
        refine lv_goto (tgt := 182) hx hb dX8_behindName_124 (by decide) ?_
        cases hM
        exact rt_v hx hb hr hlk hP hD hS rfl dX8_behindName_182
  · replace hM := if_t c1 hM
    refine lv_aload_n hx hb dX8_behindName_9 rfl (lv_at hl 0 rfl) ?_
    refine lv_bipush (v := 12) hx hb dX8_behindName_10 (by decide) ?_
    refine lv_aload_n hx hb dX8_behindName_12 rfl (lv_at hl 0 rfl) ?_
    refine va_get (D := D) (ci := 8) (v := .int o_L.1) (C := RX8) (T := TX8) (N := 48) hx hb hts layX8 hown hK hP 0 rfl rfl 6 (by decide) (hts _ (inA q984)) (fun _ h9 => h9) rfl dX8_behindName_13 ?_
    refine lv_iconst (v := 0) hx hb dX8_behindName_16 (by decide) ?_
    obtain ⟨r19, hcr19, hM⟩ := ob_use hM
    refine cl_V (As := [.int 12, .int o_L.1, .int 0]) (rest := []) (wM0 ad o_X o_L o_N r19 o_U o_O o_E o_Q o_V o_I ++ wMC cI ad o_C ++ wMX cI ad o_X ++ wMN cI ad o_N ++ wMT cI ad r19 ++ wMU cI ad o_U) [] ⟨hx, hb, hml, hown, hts⟩ (c_Model_down l D cI sd ad o_C o_X o_L o_N o_U o_O o_E o_Q o_V o_I o_T 12 o_L.1 0 r19 hcr19) (cwV2 hts q1245 mvX8_down rfl rfl ⟨(Nat.le_of_ble_eq_true rfl), (Nat.le_of_ble_eq_true rfl)⟩) hK hE hA hP hD hS 0 (T := TX8) (N := 48) (ci := 8) rfl rfl [0, 8, 9, 10, 11, 12, 13, 14] rfl (by decide) rfl rfl rfl rfl rfl rfl hl.1 (Nat.le_of_ble_eq_true rfl) dX8_behindName_17 ⟨Nat.zero_le _, Nat.zero_le _⟩ (fun H locs hP hD hS => ?_)
    refine lv_aload_n hx hb dX8_behindName_20 rfl (lv_at hl 0 rfl) ?_
    refine lv_bipush (v := 6) hx hb dX8_behindName_21 (by decide) ?_
    refine lv_aload_n hx hb dX8_behindName_23 rfl (lv_at hl 0 rfl) ?_
    refine va_get (D := D) (ci := 8) (v := .int o_O.2.2.2.1) (C := RX8) (T := TX8) (N := 48) hx hb hts layX8 hown hK hP 0 rfl rfl 30 (by decide) (hts _ (inA q1008)) (fun _ h9 => h9) rfl dX8_behindName_24 ?_
    refine lv_aload_n hx hb dX8_behindName_27 rfl (lv_at hl 0 rfl) ?_
    refine va_get (D := D) (ci := 8) (v := .int o_O.2.2.2.2.1) (C := RX8) (T := TX8) (N := 48) hx hb hts layX8 hown hK hP 0 rfl rfl 31 (by decide) (hts _ (inA q1009)) (fun _ h9 => h9) rfl dX8_behindName_28 ?_
    obtain ⟨r20, hcr20, hM⟩ := ob_use hM
    refine cl_V (As := [.int 6, .int o_O.2.2.2.1, .int o_O.2.2.2.2.1]) (rest := []) (wM0 ad o_X o_L o_N r20 o_U o_O o_E o_Q o_V o_I ++ wMC cI ad o_C ++ wMX cI ad o_X ++ wMN cI ad o_N ++ wMT cI ad r20 ++ wMU cI ad o_U) [] ⟨hx, hb, hml, hown, hts⟩ (c_Model_leaf l D cI sd ad o_C o_X o_L o_N o_U o_O o_E o_Q o_V o_I r19 6 o_O.2.2.2.1 o_O.2.2.2.2.1 r20 hcr20) (cwV2 hts q1277 mvX8_leaf rfl rfl ⟨(Nat.le_of_ble_eq_true rfl), (Nat.le_of_ble_eq_true rfl)⟩) hK hE hA hP hD hS 0 (T := TX8) (N := 48) (ci := 8) rfl rfl [0, 8, 9, 10, 11, 12, 13, 14] rfl (by decide) rfl rfl rfl rfl rfl rfl hl.1 (Nat.le_of_ble_eq_true rfl) dX8_behindName_31 ⟨Nat.zero_le _, Nat.zero_le _⟩ (fun H locs hP hD hS => ?_)
    refine lv_aload_n hx hb dX8_behindName_34 rfl (lv_at hl 0 rfl) ?_
    refine lv_bipush (v := 101) hx hb dX8_behindName_35 (by decide) ?_
    refine lv_bipush (v := 60) hx hb dX8_behindName_37 (by decide) ?_
    obtain ⟨r21, hcr21, hM⟩ := ob_use hM
    refine cl_V (As := [.int 101, .int 60]) (rest := []) (wM0 ad o_X o_L o_N r20 r21 o_O o_E o_Q o_V o_I ++ wMC cI ad o_C ++ wMX cI ad o_X ++ wMN cI ad o_N ++ wMT cI ad r20 ++ wMU cI ad r21) [] ⟨hx, hb, hml, hown, hts⟩ (c_Model_push2 l D cI sd ad o_C o_X o_L o_N r20 o_O o_E o_Q o_V o_I o_U 101 60 r21 hcr21) (cwV2 hts q1257 mvX8_push2 rfl rfl ⟨(Nat.le_of_ble_eq_true rfl), (Nat.le_of_ble_eq_true rfl)⟩) hK hE hA hP hD hS 0 (T := TX8) (N := 48) (ci := 8) rfl rfl [0, 15] rfl (by decide) rfl rfl rfl rfl rfl rfl hl.1 (Nat.le_of_ble_eq_true rfl) dX8_behindName_39 ⟨Nat.zero_le _, Nat.zero_le _⟩ (fun H locs hP hD hS => ?_)
    refine lv_aload_n hx hb dX8_behindName_42 rfl (lv_at hl 0 rfl) ?_
    obtain ⟨r22, hcr22, hM⟩ := ob_use hM
    refine cl_V (As := []) (rest := []) (wM0 ad o_X o_L o_N r20 r22 o_O o_E o_Q o_V o_I ++ wMC cI ad o_C ++ wMX cI ad o_X ++ wMN cI ad o_N ++ wMT cI ad r20 ++ wMU cI ad r22) [] ⟨hx, hb, hml, hown, hts⟩ (c_Model_pushExpression l D cI sd ad o_C o_X o_L o_N r20 o_O o_E o_Q o_V o_I r21 r22 hcr22) (cwV2 hts q1329 mvX8_pushExpression rfl rfl ⟨(Nat.le_of_ble_eq_true rfl), (Nat.le_of_ble_eq_true rfl)⟩) hK hE hA hP hD hS 0 (T := TX8) (N := 48) (ci := 8) rfl rfl [0, 15] rfl (by decide) rfl rfl rfl rfl rfl rfl hl.1 (Nat.le_of_ble_eq_true rfl) dX8_behindName_43 ⟨Nat.zero_le _, Nat.zero_le _⟩ (fun H locs hP hD hS => ?_)
    refine lv_aload_n hx hb dX8_behindName_46 rfl (lv_at hl 0 rfl) ?_
    obtain ⟨r23, hcr23, hM⟩ := ob_use hM
    refine cl_V (As := []) (rest := []) (wM0 ad o_X r23.1 r23.2 r20 r22 o_O o_E o_Q o_V o_I ++ wMC cI ad o_C ++ wMX cI ad o_X ++ wMN cI ad r23.2 ++ wMT cI ad r20 ++ wMU cI ad r22) [] ⟨hx, hb, hml, hown, hts⟩ (c_Model_step l D cI sd ad r20 r22 o_O o_E o_Q o_V o_I o_C o_X o_L o_N r23 hcr23) (cwV2 hts q1151 mvX8_step rfl rfl ⟨(Nat.le_of_ble_eq_true rfl), (Nat.le_of_ble_eq_true rfl)⟩) hK hE hA hP hD hS 0 (T := TX8) (N := 48) (ci := 8) rfl rfl [0, 1, 2, 3, 4, 5, 6, 7] rfl (by decide) rfl rfl rfl rfl rfl rfl hl.1 (Nat.le_of_ble_eq_true rfl) dX8_behindName_47 ⟨Nat.zero_le _, Nat.zero_le _⟩ (fun H locs hP hD hS => ?_)
    refine lv_goto (tgt := 182) hx hb dX8_behindName_50 (by decide) ?_
    cases hM
    exact rt_v hx hb hr hlk hP hD hS rfl dX8_behindName_182

set_option maxHeartbeats 4000000 in
set_option maxRecDepth 100000 in
theorem c_Model_indexEnd (l : Launch) (D : va_G) (cI : ClassId) (sd : Nat → Nat) (ad : Nat → Nat) (o_U : S_MU) (o_E : S_ME) (o_Q : S_MQ) (o_V : S_MV) (o_I : S_MI) (o_C : S_MC) (o_X : S_MX) (o_L : S_ML) (o_N : S_MN) (o_T : S_MT) (o_O : S_MO) (res : S_ML × S_MN × S_MT × S_MO) (hM : f_Model_indexEnd o_C o_X o_L o_N o_T o_O = some res) : Ctr l D cI sd yX8_indexEnd (wsM yX8_indexEnd cX8_indexEnd 1 (Option.none : Option Jvm.ClassFile.FieldType)) { frames := 6, cells := 0, slots := 0, locals := 133 } [.ref (ad 100)] (wM0 ad o_X o_L o_N o_T o_U o_O o_E o_Q o_V o_I ++ wMC cI ad o_C ++ wMX cI ad o_X ++ wMN cI ad o_N ++ wMT cI ad o_T) (wM0 ad o_X res.1 res.2.1 res.2.2.1 o_U res.2.2.2 o_E o_Q o_V o_I ++ wMC cI ad o_C ++ wMX cI ad o_X ++ wMN cI ad res.2.1 ++ wMT cI ad res.2.2.1) none := by
  refine Ctr.of (cc := cX8_indexEnd) (maxL := 1) (own := RX8) (by decide +kernel) rfl rfl (Nat.le_of_ble_eq_true rfl) ?_
  intro p e s m below meth c A ls hx hb hr hml hown hts hlk hK hE hA hP hD hS hl
  have hl : lv_has ls 1 [(0, .ref (ad 100))] := hl
  unfold f_Model_indexEnd at hM
  refine lv_aload_n hx hb dX8_indexEnd_0 rfl (lv_at hl 0 rfl) ?_
  refine lv_dup hx hb dX8_indexEnd_1 rfl ?_
  refine va_get (D := D) (ci := 8) (v := .int o_O.1) (C := RX8) (T := TX8) (N := 48) hx hb hts layX8 hown hK hP 0 rfl rfl 27 (by decide) (hts _ (inA q1005)) (fun _ h9 => h9) rfl dX8_indexEnd_2 ?_
  refine lv_iconst (v := 1) hx hb dX8_indexEnd_5 (by decide) ?_
  refine lv_isub hx hb dX8_indexEnd_6 ?_
  refine va_put (D := D) (ci := 8) (v := .int (o_O.1 - 1)) (ty := .int) (C := RX8) (T := TX8) (N := 48) hx hb hts layX8 tyX8 tyX8_ok nmX8 hown hK hP hD hS 0 rfl rfl 27 (by decide) (hts _ (inA q1005)) (fun _ h9 => h9) rfl (by decide +kernel) rfl rfl (Nat.le_of_ble_eq_true rfl) dX8_indexEnd_7 (fun H locs hP hD hS => ?_)
  have hP : va_P D vwCl (wM0 ad o_X o_L o_N o_T o_U (o_O.1 - 1, o_O.2) o_E o_Q o_V o_I ++ wMC cI ad o_C ++ wMX cI ad o_X ++ wMN cI ad o_N ++ wMT cI ad o_T) H := hP
  have hD : va_D A (wM0 ad o_X o_L o_N o_T o_U (o_O.1 - 1, o_O.2) o_E o_Q o_V o_I ++ wMC cI ad o_C ++ wMX cI ad o_X ++ wMN cI ad o_N ++ wMT cI ad o_T) := hD
  refine lv_aload_n hx hb dX8_indexEnd_10 rfl (lv_at hl 0 rfl) ?_
  obtain ⟨r1, hcr1, hM⟩ := ob_use hM
  refine cl_V (As := []) (rest := []) (wM0 ad o_X o_L o_N r1 o_U (o_O.1 - 1, o_O.2) o_E o_Q o_V o_I ++ wMC cI ad o_C ++ wMX cI ad o_X ++ wMN cI ad o_N ++ wMT cI ad r1) [] ⟨hx, hb, hml, hown, hts⟩ (c_Model_up l D cI sd ad o_C o_X o_L o_N o_U (o_O.1 - 1, o_O.2) o_E o_Q o_V o_I o_T r1 hcr1) (cwV2 hts q1261 mvX8_up rfl rfl ⟨(Nat.le_of_ble_eq_true rfl), (Nat.le_of_ble_eq_true rfl)⟩) hK hE hA hP hD hS 0 (T := TX8) (N := 48) (ci := 8) rfl rfl [0, 8, 9, 10, 11, 12, 13, 14] rfl (by decide) rfl rfl rfl rfl rfl rfl hl.1 (Nat.le_of_ble_eq_true rfl) dX8_indexEnd_11 ⟨Nat.zero_le _, Nat.zero_le _⟩ (fun H locs hP hD hS => ?_)
  refine lv_aload_n hx hb dX8_indexEnd_14 rfl (lv_at hl 0 rfl) ?_
  refine lv_bipush (v := 58) hx hb dX8_indexEnd_15 (by decide) ?_
  obtain ⟨r2, hcr2, hM⟩ := ob_use hM
  refine cl_V (As := [.int 58]) (rest := []) (wM0 ad o_X r2.1 r2.2 r1 o_U (o_O.1 - 1, o_O.2) o_E o_Q o_V o_I ++ wMC cI ad o_C ++ wMX cI ad o_X ++ wMN cI ad r2.2 ++ wMT cI ad r1) [] ⟨hx, hb, hml, hown, hts⟩ (c_Model_pass l D cI sd ad r1 o_U (o_O.1 - 1, o_O.2) o_E o_Q o_V o_I o_C o_X o_L o_N 58 r2 hcr2) (cwV2 hts q1229 mvX8_pass rfl rfl ⟨(Nat.le_of_ble_eq_true rfl), (Nat.le_of_ble_eq_true rfl)⟩) hK hE hA hP hD hS 0 (T := TX8) (N := 48) (ci := 8) rfl rfl [0, 1, 2, 3, 4, 5, 6, 7] rfl (by decide) rfl rfl rfl rfl rfl rfl hl.1 (Nat.le_of_ble_eq_true rfl) dX8_indexEnd_17 ⟨Nat.zero_le _, Nat.zero_le _⟩ (fun H locs hP hD hS => ?_)
  cases hM
  exact rt_v hx hb hr hlk hP hD hS rfl dX8_indexEnd_20

set_option maxHeartbeats 4000000 in
set_option maxRecDepth 100000 in
theorem c_Model_assign (l : Launch) (D : va_G) (cI : ClassId) (sd : Nat → Nat) (ad : Nat → Nat) (o_U : S_MU) (o_O : S_MO) (o_E : S_ME) (o_Q : S_MQ) (o_V : S_MV) (o_I : S_MI) (o_C : S_MC) (o_X : S_MX) (o_L : S_ML) (o_N : S_MN) (o_T : S_MT) (res : S_ML × S_MN × S_MT) (hM : f_Model_assign o_C o_X o_L o_N o_T = some res) : Ctr l D cI sd yX8_assign (wsM yX8_assign cX8_assign 1 (Option.none : Option Jvm.ClassFile.FieldType)) { frames := 6, cells := 0, slots := 0, locals := 133 } [.ref (ad 100)] (wM0 ad o_X o_L o_N o_T o_U o_O o_E o_Q o_V o_I ++ wMC cI ad o_C ++ wMX cI ad o_X ++ wMN cI ad o_N ++ wMT cI ad o_T) (wM0 ad o_X res.1 res.2.1 res.2.2 o_U o_O o_E o_Q o_V o_I ++ wMC cI ad o_C ++ wMX cI ad o_X ++ wMN cI ad res.2.1 ++ wMT cI ad res.2.2) none := by
  refine Ctr.of (cc := cX8_assign) (maxL := 1) (own := RX8) (by decide +kernel) rfl rfl (Nat.le_of_ble_eq_true rfl) ?_
  intro p e s m below meth c A ls hx hb hr hml hown hts hlk hK hE hA hP hD hS hl
  have hl : lv_has ls 1 [(0, .ref (ad 100))] := hl
  unfold f_Model_assign at hM
  refine lv_aload_n hx hb dX8_assign_0 rfl (lv_at hl 0 rfl) ?_
  refine va_get (D := D) (ci := 8) (v := .ref (ad 109)) (C := RX8) (T := TX8) (N := 48) hx hb hts layX8 hown hK hP 0 rfl rfl 18 (by decide) (hts _ (inA q996)) (fun _ h9 => h9) rfl dX8_assign_1 ?_
  refine lv_aload_n hx hb dX8_assign_4 rfl (lv_at hl 0 rfl) ?_
  refine va_get (D := D) (ci := 8) (v := .int o_T.2.1) (C := RX8) (T := TX8) (N := 48) hx hb hts layX8 hown hK hP 0 rfl rfl 24 (by decide) (hts _ (inA q1002)) (fun _ h9 => h9) rfl dX8_assign_5 ?_
  refine lv_aload_n hx hb dX8_assign_8 rfl (lv_at hl 0 rfl) ?_
  refine va_get (D := D) (ci := 8) (v := .int o_L.1) (C := RX8) (T := TX8) (N := 48) hx hb hts layX8 hown hK hP 0 rfl rfl 6 (by decide) (hts _ (inA q984)) (fun _ h9 => h9) rfl dX8_assign_9 ?_
  obtain ⟨b1, hM⟩ := gd_use hM
  refine va_iast hx hb hK hP hD hS 9 0 rfl rfl b1 dX8_assign_12 (fun H locs hP hD hS => ?_)
  have hP : va_P D vwCl (wM0 ad o_X o_L o_N (o_T.1, o_T.2.1, o_T.2.2.1, upd o_T.2.2.2.1 o_T.2.1.toNatClampNeg o_L.1, o_T.2.2.2.2) o_U o_O o_E o_Q o_V o_I ++ wMC cI ad o_C ++ wMX cI ad o_X ++ wMN cI ad o_N ++ wMT cI ad (o_T.1, o_T.2.1, o_T.2.2.1, upd o_T.2.2.2.1 o_T.2.1.toNatClampNeg o_L.1, o_T.2.2.2.2)) H := hP
  have hD : va_D A (wM0 ad o_X o_L o_N (o_T.1, o_T.2.1, o_T.2.2.1, upd o_T.2.2.2.1 o_T.2.1.toNatClampNeg o_L.1, o_T.2.2.2.2) o_U o_O o_E o_Q o_V o_I ++ wMC cI ad o_C ++ wMX cI ad o_X ++ wMN cI ad o_N ++ wMT cI ad (o_T.1, o_T.2.1, o_T.2.2.1, upd o_T.2.2.2.1 o_T.2.1.toNatClampNeg o_L.1, o_T.2.2.2.2)) := hD
  refine lv_aload_n hx hb dX8_assign_13 rfl (lv_at hl 0 rfl) ?_
  refine lv_bipush (v := 50) hx hb dX8_assign_14 (by decide) ?_
  obtain ⟨r2, hcr2, hM⟩ := ob_use hM
  refine cl_V (As := [.int 50]) (rest := []) (wM0 ad o_X r2.1 r2.2 (o_T.1, o_T.2.1, o_T.2.2.1, upd o_T.2.2.2.1 o_T.2.1.toNatClampNeg o_L.1, o_T.2.2.2.2) o_U o_O o_E o_Q o_V o_I ++ wMC cI ad o_C ++ wMX cI ad o_X ++ wMN cI ad r2.2 ++ wMT cI ad (o_T.1, o_T.2.1, o_T.2.2.1, upd o_T.2.2.2.1 o_T.2.1.toNatClampNeg o_L.1, o_T.2.2.2.2)) [] ⟨hx, hb, hml, hown, hts⟩ (c_Model_pass l D cI sd ad (o_T.1, o_T.2.1, o_T.2.2.1, upd o_T.2.2.2.1 o_T.2.1.toNatClampNeg o_L.1, o_T.2.2.2.2) o_U o_O o_E o_Q o_V o_I o_C o_X o_L o_N 50 r2 hcr2) (cwV2 hts q1229 mvX8_pass rfl rfl ⟨(Nat.le_of_ble_eq_true rfl), (Nat.le_of_ble_eq_true rfl)⟩) hK hE hA hP hD hS 0 (T := TX8) (N := 48) (ci := 8) rfl rfl [0, 1, 2, 3, 4, 5, 6, 7] rfl (by decide) rfl rfl rfl rfl rfl rfl hl.1 (Nat.le_of_ble_eq_true rfl) dX8_assign_16 ⟨Nat.zero_le _, Nat.zero_le _⟩ (fun H locs hP hD hS => ?_)
  cases hM
  exact rt_v hx hb hr hlk hP hD hS rfl dX8_assign_19

set_option maxHeartbeats 4000000 in
set_option maxRecDepth 100000 in
theorem c_Model_parameter (l : Launch) (D : va_G) (cI : ClassId) (sd : Nat → Nat) (ad : Nat → Nat) (o_O : S_MO) (o_E : S_ME) (o_Q : S_MQ) (o_V : S_MV) (o_I : S_MI) (o_C : S_MC) (o_X : S_MX) (o_L : S_ML) (o_N : S_MN) (o_T : S_MT) (o_U : S_MU) (res : S_ML × S_MN × S_MT × S_MU) (hM : f_Model_parameter o_C o_X o_L o_N o_T o_U = some res) : Ctr l D cI sd yX8_parameter (wsM yX8_parameter cX8_parameter 1 (Option.none : Option Jvm.ClassFile.FieldType)) { frames := 6, cells := 0, slots := 0, locals := 133 } [.ref (ad 100)] (wM0 ad o_X o_L o_N o_T o_U o_O o_E o_Q o_V o_I ++ wMC cI ad o_C ++ wMX cI ad o_X ++ wMN cI ad o_N ++ wMT cI ad o_T ++ wMU cI ad o_U) (wM0 ad o_X res.1 res.2.1 res.2.2.1 res.2.2.2 o_O o_E o_Q o_V o_I ++ wMC cI ad o_C ++ wMX cI ad o_X ++ wMN cI ad res.2.1 ++ wMT cI ad res.2.2.1 ++ wMU cI ad res.2.2.2) none := by
  refine Ctr.of (cc := cX8_parameter) (maxL := 1) (own := RX8) (by decide +kernel) rfl rfl (Nat.le_of_ble_eq_true rfl) ?_
  intro p e s m below meth c A ls hx hb hr hml hown hts hlk hK hE hA hP hD hS hl
  have hl : lv_has ls 1 [(0, .ref (ad 100))] := hl
  unfold f_Model_parameter at hM
  refine lv_aload_n hx hb dX8_parameter_0 rfl (lv_at hl 0 rfl) ?_
  refine lv_bipush (v := 14) hx hb dX8_parameter_1 (by decide) ?_
  refine lv_aload_n hx hb dX8_parameter_3 rfl (lv_at hl 0 rfl) ?_
  refine va_get (D := D) (ci := 8) (v := .int o_L.1) (C := RX8) (T := TX8) (N := 48) hx hb hts layX8 hown hK hP 0 rfl rfl 6 (by decide) (hts _ (inA q984)) (fun _ h9 => h9) rfl dX8_parameter_4 ?_
  refine lv_aload_n hx hb dX8_parameter_7 rfl (lv_at hl 0 rfl) ?_
  refine va_get (D := D) (ci := 8) (v := .int o_L.2.2.1) (C := RX8) (T := TX8) (N := 48) hx hb hts layX8 hown hK hP 0 rfl rfl 8 (by decide) (hts _ (inA q986)) (fun _ h9 => h9) rfl dX8_parameter_8 ?_
  obtain ⟨r1, hcr1, hM⟩ := ob_use hM
  refine cl_V (As := [.int 14, .int o_L.1, .int o_L.2.2.1]) (rest := []) (wM0 ad o_X o_L o_N r1 o_U o_O o_E o_Q o_V o_I ++ wMC cI ad o_C ++ wMX cI ad o_X ++ wMN cI ad o_N ++ wMT cI ad r1 ++ wMU cI ad o_U) [] ⟨hx, hb, hml, hown, hts⟩ (c_Model_down l D cI sd ad o_C o_X o_L o_N o_U o_O o_E o_Q o_V o_I o_T 14 o_L.1 o_L.2.2.1 r1 hcr1) (cwV2 hts q1245 mvX8_down rfl rfl ⟨(Nat.le_of_ble_eq_true rfl), (Nat.le_of_ble_eq_true rfl)⟩) hK hE hA hP hD hS 0 (T := TX8) (N := 48) (ci := 8) rfl rfl [0, 8, 9, 10, 11, 12, 13, 14] rfl (by decide) rfl rfl rfl rfl rfl rfl hl.1 (Nat.le_of_ble_eq_true rfl) dX8_parameter_11 ⟨Nat.zero_le _, Nat.zero_le _⟩ (fun H locs hP hD hS => ?_)
  refine lv_aload_n hx hb dX8_parameter_14 rfl (lv_at hl 0 rfl) ?_
  refine lv_bipush (v := 101) hx hb dX8_parameter_15 (by decide) ?_
  obtain ⟨r2, hcr2, hM⟩ := ob_use hM
  refine cl_V (As := [.int 101]) (rest := []) (wM0 ad o_X o_L o_N r1 r2 o_O o_E o_Q o_V o_I ++ wMC cI ad o_C ++ wMX cI ad o_X ++ wMN cI ad o_N ++ wMT cI ad r1 ++ wMU cI ad r2) [] ⟨hx, hb, hml, hown, hts⟩ (c_Model_push l D cI sd ad o_C o_X o_L o_N r1 o_O o_E o_Q o_V o_I o_U 101 r2 hcr2) (cwV2 hts q1147 mvX8_push rfl rfl ⟨(Nat.le_of_ble_eq_true rfl), (Nat.le_of_ble_eq_true rfl)⟩) hK hE hA hP hD hS 0 (T := TX8) (N := 48) (ci := 8) rfl rfl [0, 15] rfl (by decide) rfl rfl rfl rfl rfl rfl hl.1 (Nat.le_of_ble_eq_true rfl) dX8_parameter_17 ⟨Nat.zero_le _, Nat.zero_le _⟩ (fun H locs hP hD hS => ?_)
  refine lv_aload_n hx hb dX8_parameter_20 rfl (lv_at hl 0 rfl) ?_
  obtain ⟨r3, hcr3, hM⟩ := ob_use hM
  refine cl_V (As := []) (rest := []) (wM0 ad o_X o_L o_N r1 r3 o_O o_E o_Q o_V o_I ++ wMC cI ad o_C ++ wMX cI ad o_X ++ wMN cI ad o_N ++ wMT cI ad r1 ++ wMU cI ad r3) [] ⟨hx, hb, hml, hown, hts⟩ (c_Model_pushExpression l D cI sd ad o_C o_X o_L o_N r1 o_O o_E o_Q o_V o_I r2 r3 hcr3) (cwV2 hts q1329 mvX8_pushExpression rfl rfl ⟨(Nat.le_of_ble_eq_true rfl), (Nat.le_of_ble_eq_true rfl)⟩) hK hE hA hP hD hS 0 (T := TX8) (N := 48) (ci := 8) rfl rfl [0, 15] rfl (by decide) rfl rfl rfl rfl rfl rfl hl.1 (Nat.le_of_ble_eq_true rfl) dX8_parameter_21 ⟨Nat.zero_le _, Nat.zero_le _⟩ (fun H locs hP hD hS => ?_)
  refine lv_aload_n hx hb dX8_parameter_24 rfl (lv_at hl 0 rfl) ?_
  refine lv_bipush (v := 50) hx hb dX8_parameter_25 (by decide) ?_
  obtain ⟨r4, hcr4, hM⟩ := ob_use hM
  refine cl_V (As := [.int 50]) (rest := []) (wM0 ad o_X o_L o_N r1 r4 o_O o_E o_Q o_V o_I ++ wMC cI ad o_C ++ wMX cI ad o_X ++ wMN cI ad o_N ++ wMT cI ad r1 ++ wMU cI ad r4) [] ⟨hx, hb, hml, hown, hts⟩ (c_Model_push l D cI sd ad o_C o_X o_L o_N r1 o_O o_E o_Q o_V o_I r3 50 r4 hcr4) (cwV2 hts q1147 mvX8_push rfl rfl ⟨(Nat.le_of_ble_eq_true rfl), (Nat.le_of_ble_eq_true rfl)⟩) hK hE hA hP hD hS 0 (T := TX8) (N := 48) (ci := 8) rfl rfl [0, 15] rfl (by decide) rfl rfl rfl rfl rfl rfl hl.1 (Nat.le_of_ble_eq_true rfl) dX8_parameter_27 ⟨Nat.zero_le _, Nat.zero_le _⟩ (fun H locs hP hD hS => ?_)
  refine lv_aload_n hx hb dX8_parameter_30 rfl (lv_at hl 0 rfl) ?_
  refine lv_bipush (v := 80) hx hb dX8_parameter_31 (by decide) ?_
  obtain ⟨r5, hcr5, hM⟩ := ob_use hM
  refine cl_V (As := [.int 80]) (rest := []) (wM0 ad o_X r5.1 r5.2 r1 r4 o_O o_E o_Q o_V o_I ++ wMC cI ad o_C ++ wMX cI ad o_X ++ wMN cI ad r5.2 ++ wMT cI ad r1 ++ wMU cI ad r4) [] ⟨hx, hb, hml, hown, hts⟩ (c_Model_pass l D cI sd ad r1 r4 o_O o_E o_Q o_V o_I o_C o_X o_L o_N 80 r5 hcr5) (cwV2 hts q1229 mvX8_pass rfl rfl ⟨(Nat.le_of_ble_eq_true rfl), (Nat.le_of_ble_eq_true rfl)⟩) hK hE hA hP hD hS 0 (T := TX8) (N := 48) (ci := 8) rfl rfl [0, 1, 2, 3, 4, 5, 6, 7] rfl (by decide) rfl rfl rfl rfl rfl rfl hl.1 (Nat.le_of_ble_eq_true rfl) dX8_parameter_33 ⟨Nat.zero_le _, Nat.zero_le _⟩ (fun H locs hP hD hS => ?_)
  cases hM
  exact rt_v hx hb hr hlk hP hD hS rfl dX8_parameter_36

set_option maxHeartbeats 4000000 in
set_option maxRecDepth 100000 in
theorem c_Model_elseBody (l : Launch) (D : va_G) (cI : ClassId) (sd : Nat → Nat) (ad : Nat → Nat) (o_O : S_MO) (o_E : S_ME) (o_Q : S_MQ) (o_V : S_MV) (o_I : S_MI) (o_C : S_MC) (o_X : S_MX) (o_L : S_ML) (o_N : S_MN) (o_T : S_MT) (o_U : S_MU) (res : S_ML × S_MN × S_MT × S_MU) (hM : f_Model_elseBody o_C o_X o_L o_N o_T o_U = some res) : Ctr l D cI sd yX8_elseBody (wsM yX8_elseBody cX8_elseBody 1 (Option.none : Option Jvm.ClassFile.FieldType)) { frames := 7, cells := 0, slots := 0, locals := 155 } [.ref (ad 100)] (wM0 ad o_X o_L o_N o_T o_U o_O o_E o_Q o_V o_I ++ wMC cI ad o_C ++ wMX cI ad o_X ++ wMN cI ad o_N ++ wMT cI ad o_T ++ wMU cI ad o_U) (wM0 ad o_X res.1 res.2.1 res.2.2.1 res.2.2.2 o_O o_E o_Q o_V o_I ++ wMC cI ad o_C ++ wMX cI ad o_X ++ wMN cI ad res.2.1 ++ wMT cI ad res.2.2.1 ++ wMU cI ad res.2.2.2) none := by
  refine Ctr.of (cc := cX8_elseBody) (maxL := 1) (own := RX8) (by decide +kernel) rfl rfl (Nat.le_of_ble_eq_true rfl) ?_
  intro p e s m below meth c A ls hx hb hr hml hown hts hlk hK hE hA hP hD hS hl
  have hl : lv_has ls 1 [(0, .ref (ad 100))] := hl
  unfold f_Model_elseBody at hM
  refine lv_aload_n hx hb dX8_elseBody_0 rfl (lv_at hl 0 rfl) ?_
  refine va_get (D := D) (ci := 8) (v := .int o_L.2.1) (C := RX8) (T := TX8) (N := 48) hx hb hts layX8 hown hK hP 0 rfl rfl 7 (by decide) (hts _ (inA q985)) (fun _ h9 => h9) rfl dX8_elseBody_1 ?_
  refine lv_bipush (v := 19) hx hb dX8_elseBody_4 (by decide) ?_
  refine lv_icmp_ne (tgt := 15) hx hb dX8_elseBody_6 (by decide) (fun c1 => ?_) (fun c1 => ?_)
  · replace hM := if_f c1 hM
    cases hM
    exact rt_v hx hb hr hlk hP hD hS rfl dX8_elseBody_15
  · replace hM := if_t c1 hM
    refine lv_aload_n hx hb dX8_elseBody_9 rfl (lv_at hl 0 rfl) ?_
    refine lv_bipush (v := 19) hx hb dX8_elseBody_10 (by decide) ?_
    obtain ⟨r2, hcr2, hM⟩ := ob_use hM
    refine cl_V (As := [.int 19]) (rest := []) (wM0 ad o_X r2.1 r2.2.1 r2.2.2.1 r2.2.2.2 o_O o_E o_Q o_V o_I ++ wMC cI ad o_C ++ wMX cI ad o_X ++ wMN cI ad r2.2.1 ++ wMT cI ad r2.2.2.1 ++ wMU cI ad r2.2.2.2) [] ⟨hx, hb, hml, hown, hts⟩ (c_Model_bodyBehind l D cI sd ad o_O o_E o_Q o_V o_I o_C o_X o_L o_N o_T o_U 19 r2 hcr2) (cwV2 hts q1345 mvX8_bodyBehind rfl rfl ⟨(Nat.le_of_ble_eq_true rfl), (Nat.le_of_ble_eq_true rfl)⟩) hK hE hA hP hD hS 0 (T := TX8) (N := 48) (ci := 8) rfl rfl [0, 1, 2, 3, 4, 5, 6, 7, 8, 9, 10, 11, 12, 13, 14, 15] rfl (by decide) rfl rfl rfl rfl rfl rfl hl.1 (Nat.le_of_ble_eq_true rfl) dX8_elseBody_12 ⟨Nat.zero_le _, Nat.zero_le _⟩ (fun H locs hP hD hS => ?_)
    cases hM
    exact rt_v hx hb hr hlk hP hD hS rfl dX8_elseBody_15

set_option maxHeartbeats 4000000 in
set_option maxRecDepth 100000 in
theorem c_Model_ifRest (l : Launch) (D : va_G) (cI : ClassId) (sd : Nat → Nat) (ad : Nat → Nat) (o_O : S_MO) (o_E : S_ME) (o_Q : S_MQ) (o_V : S_MV) (o_I : S_MI) (o_C : S_MC) (o_X : S_MX) (o_L : S_ML) (o_N : S_MN) (o_T : S_MT) (o_U : S_MU) (res : S_ML × S_MN × S_MT × S_MU) (hM : f_Model_ifRest o_C o_X o_L o_N o_T o_U = some res) : Ctr l D cI sd yX8_ifRest (wsM yX8_ifRest cX8_ifRest 1 (Option.none : Option Jvm.ClassFile.FieldType)) { frames := 8, cells := 0, slots := 0, locals := 175 } [.ref (ad 100)] (wM0 ad o_X o_L o_N o_T o_U o_O o_E o_Q o_V o_I ++ wMC cI ad o_C ++ wMX cI ad o_X ++ wMN cI ad o_N ++ wMT cI ad o_T ++ wMU cI ad o_U) (wM0 ad o_X res.1 res.2.1 res.2.2.1 res.2.2.2 o_O o_E o_Q o_V o_I ++ wMC cI ad o_C ++ wMX cI ad o_X ++ wMN cI ad res.2.1 ++ wMT cI ad res.2.2.1 ++ wMU cI ad res.2.2.2) none := by
  refine Ctr.of (cc := cX8_ifRest) (maxL := 1) (own := RX8) (by decide +kernel) rfl rfl (Nat.le_of_ble_eq_true rfl) ?_
  intro p e s m below meth c A ls hx hb hr hml hown hts hlk hK hE hA hP hD hS hl
  have hl : lv_has ls 1 [(0, .ref (ad 100))] := hl
  unfold f_Model_ifRest at hM
  refine lv_aload_n hx hb dX8_ifRest_0 rfl (lv_at hl 0 rfl) ?_
  refine va_get (D := D) (ci := 8) (v := .int o_L.2.1) (C := RX8) (T := TX8) (N := 48) hx hb hts layX8 hown hK hP 0 rfl rfl 7 (by decide) (hts _ (inA q985)) (fun _ h9 => h9) rfl dX8_ifRest_1 ?_
  refine lv_bipush (v := 18) hx hb dX8_ifRest_4 (by decide) ?_
  refine lv_icmp_ne (tgt := 28) hx hb dX8_ifRest_6 (by decide) (fun c1 => ?_) (fun c1 => ?_)
  · replace hM := if_f c1 hM
    refine lv_aload_n hx hb dX8_ifRest_28 rfl (lv_at hl 0 rfl) ?_
    obtain ⟨r2, hcr2, hM⟩ := ob_use hM
    refine cl_V (As := []) (rest := []) (wM0 ad o_X r2.1 r2.2.1 r2.2.2.1 r2.2.2.2 o_O o_E o_Q o_V o_I ++ wMC cI ad o_C ++ wMX cI ad o_X ++ wMN cI ad r2.2.1 ++ wMT cI ad r2.2.2.1 ++ wMU cI ad r2.2.2.2) [] ⟨hx, hb, hml, hown, hts⟩ (c_Model_elseBody l D cI sd ad o_O o_E o_Q o_V o_I o_C o_X o_L o_N o_T o_U r2 hcr2) (cwV2 hts q1341 mvX8_elseBody rfl rfl ⟨(Nat.le_of_ble_eq_true rfl), (Nat.le_of_ble_eq_true rfl)⟩) hK hE hA hP hD hS 0 (T := TX8) (N := 48) (ci := 8) rfl rfl [0, 1, 2, 3, 4, 5, 6, 7, 8, 9, 10, 11, 12, 13, 14, 15] rfl (by decide) rfl rfl rfl rfl rfl rfl hl.1 (Nat.le_of_ble_eq_true rfl) dX8_ifRest_29 ⟨Nat.zero_le _, Nat.zero_le _⟩ (fun H locs hP hD hS => ?_)
    cases hM
    exact rt_v hx hb hr hlk hP hD hS rfl dX8_ifRest_32
  · replace hM := if_t c1 hM
    refine lv_aload_n hx hb dX8_ifRest_9 rfl (lv_at hl 0 rfl) ?_
    refine lv_bipush (v := 117) hx hb dX8_ifRest_10 (by decide) ?_
    refine lv_bipush (v := 119) hx hb dX8_ifRest_12 (by decide) ?_
    obtain ⟨r3, hcr3, hM⟩ := ob_use hM
    refine cl_V (As := [.int 117, .int 119]) (rest := []) (wM0 ad o_X o_L o_N o_T r3 o_O o_E o_Q o_V o_I ++ wMC cI ad o_C ++ wMX cI ad o_X ++ wMN cI ad o_N ++ wMT cI ad o_T ++ wMU cI ad r3) [] ⟨hx, hb, hml, hown, hts⟩ (c_Model_push2 l D cI sd ad o_C o_X o_L o_N o_T o_O o_E o_Q o_V o_I o_U 117 119 r3 hcr3) (cwV2 hts q1257 mvX8_push2 rfl rfl ⟨(Nat.le_of_ble_eq_true rfl), (Nat.le_of_ble_eq_true rfl)⟩) hK hE hA hP hD hS 0 (T := TX8) (N := 48) (ci := 8) rfl rfl [0, 15] rfl (by decide) rfl rfl rfl rfl rfl rfl hl.1 (Nat.le_of_ble_eq_true rfl) dX8_ifRest_14 ⟨Nat.zero_le _, Nat.zero_le _⟩ (fun H locs hP hD hS => ?_)
    refine lv_aload_n hx hb dX8_ifRest_17 rfl (lv_at hl 0 rfl) ?_
    obtain ⟨r4, hcr4, hM⟩ := ob_use hM
    refine cl_V (As := []) (rest := []) (wM0 ad o_X o_L o_N o_T r4 o_O o_E o_Q o_V o_I ++ wMC cI ad o_C ++ wMX cI ad o_X ++ wMN cI ad o_N ++ wMT cI ad o_T ++ wMU cI ad r4) [] ⟨hx, hb, hml, hown, hts⟩ (c_Model_pushExpression l D cI sd ad o_C o_X o_L o_N o_T o_O o_E o_Q o_V o_I r3 r4 hcr4) (cwV2 hts q1329 mvX8_pushExpression rfl rfl ⟨(Nat.le_of_ble_eq_true rfl), (Nat.le_of_ble_eq_true rfl)⟩) hK hE hA hP hD hS 0 (T := TX8) (N := 48) (ci := 8) rfl rfl [0, 15] rfl (by decide) rfl rfl rfl rfl rfl rfl hl.1 (Nat.le_of_ble_eq_true rfl) dX8_ifRest_18 ⟨Nat.zero_le _, Nat.zero_le _⟩ (fun H locs hP hD hS => ?_)
    refine lv_aload_n hx hb dX8_ifRest_21 rfl (lv_at hl 0 rfl) ?_
    obtain ⟨r5, hcr5, hM⟩ := ob_use hM
    refine cl_V (As := []) (rest := []) (wM0 ad o_X r5.1 r5.2 o_T r4 o_O o_E o_Q o_V o_I ++ wMC cI ad o_C ++ wMX cI ad o_X ++ wMN cI ad r5.2 ++ wMT cI ad o_T ++ wMU cI ad r4) [] ⟨hx, hb, hml, hown, hts⟩ (c_Model_step l D cI sd ad o_T r4 o_O o_E o_Q o_V o_I o_C o_X o_L o_N r5 hcr5) (cwV2 hts q1151 mvX8_step rfl rfl ⟨(Nat.le_of_ble_eq_true rfl), (Nat.le_of_ble_eq_true rfl)⟩) hK hE hA hP hD hS 0 (T := TX8) (N := 48) (ci := 8) rfl rfl [0, 1, 2, 3, 4, 5, 6, 7] rfl (by decide) rfl rfl rfl rfl rfl rfl hl.1 (Nat.le_of_ble_eq_true rfl) dX8_ifRest_22 ⟨Nat.zero_le _, Nat.zero_le _⟩ (fun H locs hP hD hS => ?_)
    refine lv_goto (tgt := 32) hx hb dX8_ifRest_25 (by decide) ?_
    cases hM
    exact rt_v hx hb hr hlk hP hD hS rfl dX8_ifRest_32

set_option maxHeartbeats 4000000 in
set_option maxRecDepth 100000 in
theorem c_Model_choices (l : Launch) (D : va_G) (cI : ClassId) (sd : Nat → Nat) (ad : Nat → Nat) (o_C : S_MC) (o_X : S_MX) (o_N : S_MN) (o_O : S_MO) (o_E : S_ME) (o_Q : S_MQ) (o_V : S_MV) (o_I : S_MI) (o_L : S_ML) (o_T : S_MT) (o_U : S_MU) (res : S_MT × S_MU) (hM : f_Model_choices o_L o_T o_U = some res) : Ctr l D cI sd yX8_choices (wsM yX8_choices cX8_choices 1 (Option.none : Option Jvm.ClassFile.FieldType)) { frames := 3, cells := 0, slots := 0, locals := 67 } [.ref (ad 100)] (wM0 ad o_X o_L o_N o_T o_U o_O o_E o_Q o_V o_I ++ wMT cI ad o_T ++ wMU cI ad o_U) (wM0 ad o_X o_L o_N res.1 res.2 o_O o_E o_Q o_V o_I ++ wMT cI ad res.1 ++ wMU cI ad res.2) none := by
  refine Ctr.of (cc := cX8_choices) (maxL := 1) (own := RX8) (by decide +kernel) rfl rfl (Nat.le_of_ble_eq_true rfl) ?_
  intro p e s m below meth c A ls hx hb hr hml hown hts hlk hK hE hA hP hD hS hl
  have hl : lv_has ls 1 [(0, .ref (ad 100))] := hl
  unfold f_Model_choices at hM
  refine lv_aload_n hx hb dX8_choices_0 rfl (lv_at hl 0 rfl) ?_
  obtain ⟨r1, hcr1, hM⟩ := ob_use hM
  refine cl_V (As := []) (rest := []) (wM0 ad o_X o_L o_N o_T o_U o_O o_E o_Q o_V o_I ++ wMT cI ad o_T ++ wMU cI ad o_U) (.int r1 :: []) ⟨hx, hb, hml, hown, hts⟩ (c_Model_isConstant l D cI sd ad o_C o_X o_N o_T o_U o_O o_E o_Q o_V o_I o_L r1 hcr1) (cwV2 hts q1353 mvX8_isConstant rfl rfl ⟨(Nat.le_of_ble_eq_true rfl), (Nat.le_of_ble_eq_true rfl)⟩) hK hE hA hP hD hS 0 (T := TX8) (N := 48) (ci := 8) rfl rfl [0] rfl (by decide) rfl rfl rfl rfl rfl rfl hl.1 (Nat.le_of_ble_eq_true rfl) dX8_choices_1 ⟨Nat.zero_le _, Nat.zero_le _⟩ (fun H locs hP hD hS => ?_)
  refine lv_if_eq (tgt := 36) hx hb dX8_choices_4 (by decide) (fun c2 => ?_) (fun c2 => ?_)
  · replace hM := if_t c2 hM
    cases hM
    exact rt_v hx hb hr hlk hP hD hS rfl dX8_choices_36
  · replace hM := if_f c2 hM
    refine lv_aload_n hx hb dX8_choices_7 rfl (lv_at hl 0 rfl) ?_
    refine lv_bipush (v := 17) hx hb dX8_choices_8 (by decide) ?_
    refine lv_aload_n hx hb dX8_choices_10 rfl (lv_at hl 0 rfl) ?_
    refine va_get (D := D) (ci := 8) (v := .int o_L.1) (C := RX8) (T := TX8) (N := 48) hx hb hts layX8 hown hK hP 0 rfl rfl 6 (by decide) (hts _ (inA q984)) (fun _ h9 => h9) rfl dX8_choices_11 ?_
    refine lv_iconst (v := 0) hx hb dX8_choices_14 (by decide) ?_
    obtain ⟨r3, hcr3, hM⟩ := ob_use hM
    refine cl_V (As := [.int 17, .int o_L.1, .int 0]) (rest := []) (wM0 ad o_X o_L o_N r3 o_U o_O o_E o_Q o_V o_I ++ wMT cI ad r3 ++ wMU cI ad o_U) [] ⟨hx, hb, hml, hown, hts⟩ (c_Model_down l D cI sd ad o_C o_X o_L o_N o_U o_O o_E o_Q o_V o_I o_T 17 o_L.1 0 r3 hcr3) (cwV2 hts q1245 mvX8_down rfl rfl ⟨(Nat.le_of_ble_eq_true rfl), (Nat.le_of_ble_eq_true rfl)⟩) hK hE hA hP hD hS 0 (T := TX8) (N := 48) (ci := 8) rfl rfl [0, 1, 2, 3, 4, 5, 6, 7] rfl (by decide) rfl rfl rfl rfl rfl rfl hl.1 (Nat.le_of_ble_eq_true rfl) dX8_choices_15 ⟨Nat.zero_le _, Nat.zero_le _⟩ (fun H locs hP hD hS => ?_)
    refine lv_aload_n hx hb dX8_choices_18 rfl (lv_at hl 0 rfl) ?_
    refine lv_bipush (v := 121) hx hb dX8_choices_19 (by decide) ?_
    refine lv_bipush (v := 101) hx hb dX8_choices_21 (by decide) ?_
    refine lv_bipush (v := 122) hx hb dX8_choices_23 (by decide) ?_
    refine lv_bipush (v := 124) hx hb dX8_choices_25 (by decide) ?_
    obtain ⟨r4, hcr4, hM⟩ := ob_use hM
    refine cl_V (As := [.int 121, .int 101, .int 122, .int 124]) (rest := []) (wM0 ad o_X o_L o_N r3 r4 o_O o_E o_Q o_V o_I ++ wMT cI ad r3 ++ wMU cI ad r4) [] ⟨hx, hb, hml, hown, hts⟩ (c_Model_push4 l D cI sd ad o_C o_X o_L o_N r3 o_O o_E o_Q o_V o_I o_U 121 101 122 124 r4 hcr4) (cwV2 hts q1253 mvX8_push4 rfl rfl ⟨(Nat.le_of_ble_eq_true rfl), (Nat.le_of_ble_eq_true rfl)⟩) hK hE hA hP hD hS 0 (T := TX8) (N := 48) (ci := 8) rfl rfl [0, 8] rfl (by decide) rfl rfl rfl rfl rfl rfl hl.1 (Nat.le_of_ble_eq_true rfl) dX8_choices_27 ⟨Nat.zero_le _, Nat.zero_le _⟩ (fun H locs hP hD hS => ?_)
    refine lv_aload_n hx hb dX8_choices_30 rfl (lv_at hl 0 rfl) ?_
    refine lv_bipush (v := 123) hx hb dX8_choices_31 (by decide) ?_
    obtain ⟨r5, hcr5, hM⟩ := ob_use hM
    refine cl_V (As := [.int 123]) (rest := []) (wM0 ad o_X o_L o_N r3 r5 o_O o_E o_Q o_V o_I ++ wMT cI ad r3 ++ wMU cI ad r5) [] ⟨hx, hb, hml, hown, hts⟩ (c_Model_push l D cI sd ad o_C o_X o_L o_N r3 o_O o_E o_Q o_V o_I r4 123 r5 hcr5) (cwV2 hts q1147 mvX8_push rfl rfl ⟨(Nat.le_of_ble_eq_true rfl), (Nat.le_of_ble_eq_true rfl)⟩) hK hE hA hP hD hS 0 (T := TX8) (N := 48) (ci := 8) rfl rfl [0, 8] rfl (by decide) rfl rfl rfl rfl rfl rfl hl.1 (Nat.le_of_ble_eq_true rfl) dX8_choices_33 ⟨Nat.zero_le _, Nat.zero_le _⟩ (fun H locs hP hD hS => ?_)
    cases hM
    exact rt_v hx hb hr hlk hP hD hS rfl dX8_choices_36

set_option maxHeartbeats 4000000 in
set_option maxRecDepth 100000 in
theorem c_Model_range (l : Launch) (D : va_G) (cI : ClassId) (sd : Nat → Nat) (ad : Nat → Nat) (o_C : S_MC) (o_X : S_MX) (o_N : S_MN) (o_O : S_MO) (o_E : S_ME) (o_Q : S_MQ) (o_V : S_MV) (o_I : S_MI) (o_L : S_ML) (o_T : S_MT) (o_U : S_MU) (res : S_MT × S_MU) (hM : f_Model_range o_L o_T o_U = some res) : Ctr l D cI sd yX8_range (wsM yX8_range cX8_range 1 (Option.none : Option Jvm.ClassFile.FieldType)) { frames := 2, cells := 0, slots := 0, locals := 47 } [.ref (ad 100)] (wM0 ad o_X o_L o_N o_T o_U o_O o_E o_Q o_V o_I ++ wMT cI ad o_T ++ wMU cI ad o_U) (wM0 ad o_X o_L o_N res.1 res.2 o_O o_E o_Q o_V o_I ++ wMT cI ad res.1 ++ wMU cI ad res.2) none := by
  refine Ctr.of (cc := cX8_range) (maxL := 1) (own := RX8) (by decide +kernel) rfl rfl (Nat.le_of_ble_eq_true rfl) ?_
  intro p e s m below meth c A ls hx hb hr hml hown hts hlk hK hE hA hP hD hS hl
  have hl : lv_has ls 1 [(0, .ref (ad 100))] := hl
  unfold f_Model_range at hM
  refine lv_aload_n hx hb dX8_range_0 rfl (lv_at hl 0 rfl) ?_
  refine lv_bipush (v := 18) hx hb dX8_range_1 (by decide) ?_
  refine lv_aload_n hx hb dX8_range_3 rfl (lv_at hl 0 rfl) ?_
  refine va_get (D := D) (ci := 8) (v := .int o_L.1) (C := RX8) (T := TX8) (N := 48) hx hb hts layX8 hown hK hP 0 rfl rfl 6 (by decide) (hts _ (inA q984)) (fun _ h9 => h9) rfl dX8_range_4 ?_
  refine lv_iconst (v := 0) hx hb dX8_range_7 (by decide) ?_
  obtain ⟨r1, hcr1, hM⟩ := ob_use hM
  refine cl_V (As := [.int 18, .int o_L.1, .int 0]) (rest := []) (wM0 ad o_X o_L o_N r1 o_U o_O o_E o_Q o_V o_I ++ wMT cI ad r1 ++ wMU cI ad o_U) [] ⟨hx, hb, hml, hown, hts⟩ (c_Model_down l D cI sd ad o_C o_X o_L o_N o_U o_O o_E o_Q o_V o_I o_T 18 o_L.1 0 r1 hcr1) (cwV2 hts q1245 mvX8_down rfl rfl ⟨(Nat.le_of_ble_eq_true rfl), (Nat.le_of_ble_eq_true rfl)⟩) hK hE hA hP hD hS 0 (T := TX8) (N := 48) (ci := 8) rfl rfl [0, 1, 2, 3, 4, 5, 6, 7] rfl (by decide) rfl rfl rfl rfl rfl rfl hl.1 (Nat.le_of_ble_eq_true rfl) dX8_range_8 ⟨Nat.zero_le _, Nat.zero_le _⟩ (fun H locs hP hD hS => ?_)
  refine lv_aload_n hx hb dX8_range_11 rfl (lv_at hl 0 rfl) ?_
  refine lv_bipush (v := 101) hx hb dX8_range_12 (by decide) ?_
  refine lv_bipush (v := 125) hx hb dX8_range_14 (by decide) ?_
  obtain ⟨r2, hcr2, hM⟩ := ob_use hM
  refine cl_V (As := [.int 101, .int 125]) (rest := []) (wM0 ad o_X o_L o_N r1 r2 o_O o_E o_Q o_V o_I ++ wMT cI ad r1 ++ wMU cI ad r2) [] ⟨hx, hb, hml, hown, hts⟩ (c_Model_push2 l D cI sd ad o_C o_X o_L o_N r1 o_O o_E o_Q o_V o_I o_U 101 125 r2 hcr2) (cwV2 hts q1257 mvX8_push2 rfl rfl ⟨(Nat.le_of_ble_eq_true rfl), (Nat.le_of_ble_eq_true rfl)⟩) hK hE hA hP hD hS 0 (T := TX8) (N := 48) (ci := 8) rfl rfl [0, 8] rfl (by decide) rfl rfl rfl rfl rfl rfl hl.1 (Nat.le_of_ble_eq_true rfl) dX8_range_16 ⟨Nat.zero_le _, Nat.zero_le _⟩ (fun H locs hP hD hS => ?_)
  refine lv_aload_n hx hb dX8_range_19 rfl (lv_at hl 0 rfl) ?_
  refine lv_bipush (v := 113) hx hb dX8_range_20 (by decide) ?_
  obtain ⟨r3, hcr3, hM⟩ := ob_use hM
  refine cl_V (As := [.int 113]) (rest := []) (wM0 ad o_X o_L o_N r1 r3 o_O o_E o_Q o_V o_I ++ wMT cI ad r1 ++ wMU cI ad r3) [] ⟨hx, hb, hml, hown, hts⟩ (c_Model_push l D cI sd ad o_C o_X o_L o_N r1 o_O o_E o_Q o_V o_I r2 113 r3 hcr3) (cwV2 hts q1147 mvX8_push rfl rfl ⟨(Nat.le_of_ble_eq_true rfl), (Nat.le_of_ble_eq_true rfl)⟩) hK hE hA hP hD hS 0 (T := TX8) (N := 48) (ci := 8) rfl rfl [0, 8] rfl (by decide) rfl rfl rfl rfl rfl rfl hl.1 (Nat.le_of_ble_eq_true rfl) dX8_range_22 ⟨Nat.zero_le _, Nat.zero_le _⟩ (fun H locs hP hD hS => ?_)
  cases hM
  exact rt_v hx hb hr hlk hP hD hS rfl dX8_range_25

set_option maxHeartbeats 4000000 in
set_option maxRecDepth 100000 in
theorem c_Model_putOperand (l : Launch) (D : va_G) (cI : ClassId) (sd : Nat → Nat) (ad : Nat → Nat) (o_C : S_MC) (o_X : S_MX) (o_L : S_ML) (o_N : S_MN) (o_T : S_MT) (o_U : S_MU) (o_O : S_MO) (o_Q : S_MQ) (o_V : S_MV) (o_I : S_MI) (o_E : S_ME) (a1 : Int32) (res : S_ME) (hM : f_Model_putOperand o_E a1 = some res) : Ctr l D cI sd yX8_putOperand (wsM yX8_putOperand cX8_putOperand 2 (Option.none : Option Jvm.ClassFile.FieldType)) { frames := 0, cells := 0, slots := 0, locals := 0 } [.ref (ad 100), .int a1] (wM0 ad o_X o_L o_N o_T o_U o_O o_E o_Q o_V o_I ++ wME cI ad o_E) (wM0 ad o_X o_L o_N o_T o_U o_O res o_Q o_V o_I ++ wME cI ad res) none := by
  refine Ctr.of (cc := cX8_putOperand) (maxL := 2) (own := RX8) (by decide +kernel) rfl rfl (Nat.le_of_ble_eq_true rfl) ?_
  intro p e s m below meth c A ls hx hb hr hml hown hts hlk hK hE hA hP hD hS hl
  have hl : lv_has ls 2 [(0, .ref (ad 100)), (1, .int a1)] := hl
  unfold f_Model_putOperand at hM
  refine lv_aload_n hx hb dX8_putOperand_0 rfl (lv_at hl 0 rfl) ?_
  refine va_get (D := D) (ci := 8) (v := .ref (ad 116)) (C := RX8) (T := TX8) (N := 48) hx hb hts layX8 hown hK hP 0 rfl rfl 34 (by decide) (hts _ (inA q1012)) (fun _ h9 => h9) rfl dX8_putOperand_1 ?_
  refine lv_aload_n hx hb dX8_putOperand_4 rfl (lv_at hl 0 rfl) ?_
  refine va_get (D := D) (ci := 8) (v := .int o_E.1) (C := RX8) (T := TX8) (N := 48) hx hb hts layX8 hown hK hP 0 rfl rfl 33 (by decide) (hts _ (inA q1011)) (fun _ h9 => h9) rfl dX8_putOperand_5 ?_
  refine lv_iload_n hx hb dX8_putOperand_8 rfl (lv_at hl 1 rfl) ?_
  obtain ⟨b1, hM⟩ := gd_use hM
  refine va_iast hx hb hK hP hD hS 1 0 rfl rfl b1 dX8_putOperand_9 (fun H locs hP hD hS => ?_)
  have hP : va_P D vwCl (wM0 ad o_X o_L o_N o_T o_U o_O (o_E.1, o_E.2.1, o_E.2.2.1, upd o_E.2.2.2.1 o_E.1.toNatClampNeg a1, o_E.2.2.2.2) o_Q o_V o_I ++ wME cI ad (o_E.1, o_E.2.1, o_E.2.2.1, upd o_E.2.2.2.1 o_E.1.toNatClampNeg a1, o_E.2.2.2.2)) H := hP
  have hD : va_D A (wM0 ad o_X o_L o_N o_T o_U o_O (o_E.1, o_E.2.1, o_E.2.2.1, upd o_E.2.2.2.1 o_E.1.toNatClampNeg a1, o_E.2.2.2.2) o_Q o_V o_I ++ wME cI ad (o_E.1, o_E.2.1, o_E.2.2.1, upd o_E.2.2.2.1 o_E.1.toNatClampNeg a1, o_E.2.2.2.2)) := hD
  refine lv_aload_n hx hb dX8_putOperand_10 rfl (lv_at hl 0 rfl) ?_
  refine lv_dup hx hb dX8_putOperand_11 rfl ?_
  refine va_get (D := D) (ci := 8) (v := .int o_E.1) (C := RX8) (T := TX8) (N := 48) hx hb hts layX8 hown hK hP 0 rfl rfl 33 (by decide) (hts _ (inA q1011)) (fun _ h9 => h9) rfl dX8_putOperand_12 ?_
  refine lv_iconst (v := 1) hx hb dX8_putOperand_15 (by decide) ?_
  refine lv_iadd hx hb dX8_putOperand_16 ?_
  refine va_put (D := D) (ci := 8) (v := .int (o_E.1 + 1)) (ty := .int) (C := RX8) (T := TX8) (N := 48) hx hb hts layX8 tyX8 tyX8_ok nmX8 hown hK hP hD hS 0 rfl rfl 33 (by decide) (hts _ (inA q1011)) (fun _ h9 => h9) rfl (by decide +kernel) rfl rfl (Nat.le_of_ble_eq_true rfl) dX8_putOperand_17 (fun H locs hP hD hS => ?_)
  have hP : va_P D vwCl (wM0 ad o_X o_L o_N o_T o_U o_O (o_E.1 + 1, o_E.2.1, o_E.2.2.1, upd o_E.2.2.2.1 o_E.1.toNatClampNeg a1, o_E.2.2.2.2) o_Q o_V o_I ++ wME cI ad (o_E.1 + 1, o_E.2.1, o_E.2.2.1, upd o_E.2.2.2.1 o_E.1.toNatClampNeg a1, o_E.2.2.2.2)) H := hP
  have hD : va_D A (wM0 ad o_X o_L o_N o_T o_U o_O (o_E.1 + 1, o_E.2.1, o_E.2.2.1, upd o_E.2.2.2.1 o_E.1.toNatClampNeg a1, o_E.2.2.2.2) o_Q o_V o_I ++ wME cI ad (o_E.1 + 1, o_E.2.1, o_E.2.2.1, upd o_E.2.2.2.1 o_E.1.toNatClampNeg a1, o_E.2.2.2.2)) := hD
  cases hM
  exact rt_v hx hb hr hlk hP hD hS rfl dX8_putOperand_20

set_option maxHeartbeats 4000000 in
set_option maxRecDepth 100000 in
theorem c_Model_takeOperand (l : Launch) (D : va_G) (cI : ClassId) (sd : Nat → Nat) (ad : Nat → Nat) (o_C : S_MC) (o_X : S_MX) (o_L : S_ML) (o_N : S_MN) (o_T : S_MT) (o_U : S_MU) (o_O : S_MO) (o_Q : S_MQ) (o_V : S_MV) (o_I : S_MI) (o_E : S_ME) (res : Int32 × S_ME) (hM : f_Model_takeOperand o_E = some res) : Ctr l D cI sd yX8_takeOperand (wsM yX8_takeOperand cX8_takeOperand 1 (Option.some Jvm.ClassFile.FieldType.int)) { frames := 0, cells := 0, slots := 0, locals := 0 } [.ref (ad 100)] (wM0 ad o_X o_L o_N o_T o_U o_O o_E o_Q o_V o_I ++ wME cI ad o_E) (wM0 ad o_X o_L o_N o_T o_U o_O res.2 o_Q o_V o_I ++ wME cI ad res.2) (some (.int res.1)) := by
  refine Ctr.of (cc := cX8_takeOperand) (maxL := 1) (own := RX8) (by decide +kernel) rfl rfl (Nat.le_of_ble_eq_true rfl) ?_
  intro p e s m below meth c A ls hx hb hr hml hown hts hlk hK hE hA hP hD hS hl
  have hl : lv_has ls 1 [(0, .ref (ad 100))] := hl
  unfold f_Model_takeOperand at hM
  refine lv_aload_n hx hb dX8_takeOperand_0 rfl (lv_at hl 0 rfl) ?_
  refine lv_dup hx hb dX8_takeOperand_1 rfl ?_
  refine va_get (D := D) (ci := 8) (v := .int o_E.1) (C := RX8) (T := TX8) (N := 48) hx hb hts layX8 hown hK hP 0 rfl rfl 33 (by decide) (hts _ (inA q1011)) (fun _ h9 => h9) rfl dX8_takeOperand_2 ?_
  refine lv_iconst (v := 1) hx hb dX8_takeOperand_5 (by decide) ?_
  refine lv_isub hx hb dX8_takeOperand_6 ?_
  refine va_put (D := D) (ci := 8) (v := .int (o_E.1 - 1)) (ty := .int) (C := RX8) (T := TX8) (N := 48) hx hb hts layX8 tyX8 tyX8_ok nmX8 hown hK hP hD hS 0 rfl rfl 33 (by decide) (hts _ (inA q1011)) (fun _ h9 => h9) rfl (by decide +kernel) rfl rfl (Nat.le_of_ble_eq_true rfl) dX8_takeOperand_7 (fun H locs hP hD hS => ?_)
  have hP : va_P D vwCl (wM0 ad o_X o_L o_N o_T o_U o_O (o_E.1 - 1, o_E.2) o_Q o_V o_I ++ wME cI ad (o_E.1 - 1, o_E.2)) H := hP
  have hD : va_D A (wM0 ad o_X o_L o_N o_T o_U o_O (o_E.1 - 1, o_E.2) o_Q o_V o_I ++ wME cI ad (o_E.1 - 1, o_E.2)) := hD
  refine lv_aload_n hx hb dX8_takeOperand_10 rfl (lv_at hl 0 rfl) ?_
  refine va_get (D := D) (ci := 8) (v := .ref (ad 116)) (C := RX8) (T := TX8) (N := 48) hx hb hts layX8 hown hK hP 0 rfl rfl 34 (by decide) (hts _ (inA q1012)) (fun _ h9 => h9) rfl dX8_takeOperand_11 ?_
  refine lv_aload_n hx hb dX8_takeOperand_14 rfl (lv_at hl 0 rfl) ?_
  refine va_get (D := D) (ci := 8) (v := .int (o_E.1 - 1)) (C := RX8) (T := TX8) (N := 48) hx hb hts layX8 hown hK hP 0 rfl rfl 33 (by decide) (hts _ (inA q1011)) (fun _ h9 => h9) rfl dX8_takeOperand_15 ?_
  obtain ⟨b1, hM⟩ := gd_use hM
  refine va_iald hx hb hK hP 1 0 rfl rfl b1 dX8_takeOperand_18 ?_
  cases hM
  exact rt_i hx hb hr hlk hP hD hS rfl dX8_takeOperand_19

set_option maxHeartbeats 4000000 in
set_option maxRecDepth 100000 in
theorem c_Model_waitFor (l : Launch) (D : va_G) (cI : ClassId) (sd : Nat → Nat) (ad : Nat → Nat) (o_C : S_MC) (o_X : S_MX) (o_L : S_ML) (o_N : S_MN) (o_T : S_MT) (o_U : S_MU) (o_O : S_MO) (o_Q : S_MQ) (o_V : S_MV) (o_I : S_MI) (o_E : S_ME) (a1 : Int32) (a2 : Int32) (res : S_ME) (hM : f_Model_waitFor o_E a1 a2 = some res) : Ctr l D cI sd yX8_waitFor (wsM yX8_waitFor cX8_waitFor 3 (Option.none : Option Jvm.ClassFile.FieldType)) { frames := 0, cells := 0, slots := 0, locals := 0 } [.ref (ad 100), .int a1, .int a2] (wM0 ad o_X o_L o_N o_T o_U o_O o_E o_Q o_V o_I ++ wME cI ad o_E) (wM0 ad o_X o_L o_N o_T o_U o_O res o_Q o_V o_I ++ wME cI ad res) none := by
  refine Ctr.of (cc := cX8_waitFor) (maxL := 3) (own := RX8) (by decide +kernel) rfl rfl (Nat.le_of_ble_eq_true rfl) ?_
  intro p e s m below meth c A ls hx hb hr hml hown hts hlk hK hE hA hP hD hS hl
  have hl : lv_has ls 3 [(0, .ref (ad 100)), (1, .int a1), (2, .int a2)] := hl
  unfold f_Model_waitFor at hM
  refine lv_aload_n hx hb dX8_waitFor_0 rfl (lv_at hl 0 rfl) ?_
  refine va_get (D := D) (ci := 8) (v := .ref (ad 117)) (C := RX8) (T := TX8) (N := 48) hx hb hts layX8 hown hK hP 0 rfl rfl 36 (by decide) (hts _ (inA q1014)) (fun _ h9 => h9) rfl dX8_waitFor_1 ?_
  refine lv_aload_n hx hb dX8_waitFor_4 rfl (lv_at hl 0 rfl) ?_
  refine va_get (D := D) (ci := 8) (v := .int o_E.2.1) (C := RX8) (T := TX8) (N := 48) hx hb hts layX8 hown hK hP 0 rfl rfl 35 (by decide) (hts _ (inA q1013)) (fun _ h9 => h9) rfl dX8_waitFor_5 ?_
  refine lv_iload_n hx hb dX8_waitFor_8 rfl (lv_at hl 1 rfl) ?_
  obtain ⟨b1, hM⟩ := gd_use hM
  refine va_iast hx hb hK hP hD hS 2 0 rfl rfl b1 dX8_waitFor_9 (fun H locs hP hD hS => ?_)
  have hP : va_P D vwCl (wM0 ad o_X o_L o_N o_T o_U o_O (o_E.1, o_E.2.1, o_E.2.2.1, o_E.2.2.2.1, upd o_E.2.2.2.2.1 o_E.2.1.toNatClampNeg a1, o_E.2.2.2.2.2) o_Q o_V o_I ++ wME cI ad (o_E.1, o_E.2.1, o_E.2.2.1, o_E.2.2.2.1, upd o_E.2.2.2.2.1 o_E.2.1.toNatClampNeg a1, o_E.2.2.2.2.2)) H := hP
  have hD : va_D A (wM0 ad o_X o_L o_N o_T o_U o_O (o_E.1, o_E.2.1, o_E.2.2.1, o_E.2.2.2.1, upd o_E.2.2.2.2.1 o_E.2.1.toNatClampNeg a1, o_E.2.2.2.2.2) o_Q o_V o_I ++ wME cI ad (o_E.1, o_E.2.1, o_E.2.2.1, o_E.2.2.2.1, upd o_E.2.2.2.2.1 o_E.2.1.toNatClampNeg a1, o_E.2.2.2.2.2)) := hD
  refine lv_aload_n hx hb dX8_waitFor_10 rfl (lv_at hl 0 rfl) ?_
  refine va_get (D := D) (ci := 8) (v := .ref (ad 118)) (C := RX8) (T := TX8) (N := 48) hx hb hts layX8 hown hK hP 0 rfl rfl 37 (by decide) (hts _ (inA q1015)) (fun _ h9 => h9) rfl dX8_waitFor_11 ?_
  refine lv_aload_n hx hb dX8_waitFor_14 rfl (lv_at hl 0 rfl) ?_
  refine va_get (D := D) (ci := 8) (v := .int o_E.2.1) (C := RX8) (T := TX8) (N := 48) hx hb hts layX8 hown hK hP 0 rfl rfl 35 (by decide) (hts _ (inA q1013)) (fun _ h9 => h9) rfl dX8_waitFor_15 ?_
  refine lv_iload_n hx hb dX8_waitFor_18 rfl (lv_at hl 2 rfl) ?_
  obtain ⟨b2, hM⟩ := gd_use hM
  refine va_iast hx hb hK hP hD hS 3 0 rfl rfl b2 dX8_waitFor_19 (fun H locs hP hD hS => ?_)
  have hP : va_P D vwCl (wM0 ad o_X o_L o_N o_T o_U o_O (o_E.1, o_E.2.1, o_E.2.2.1, o_E.2.2.2.1, upd o_E.2.2.2.2.1 o_E.2.1.toNatClampNeg a1, upd o_E.2.2.2.2.2.1 o_E.2.1.toNatClampNeg a2, o_E.2.2.2.2.2.2) o_Q o_V o_I ++ wME cI ad (o_E.1, o_E.2.1, o_E.2.2.1, o_E.2.2.2.1, upd o_E.2.2.2.2.1 o_E.2.1.toNatClampNeg a1, upd o_E.2.2.2.2.2.1 o_E.2.1.toNatClampNeg a2, o_E.2.2.2.2.2.2)) H := hP
  have hD : va_D A (wM0 ad o_X o_L o_N o_T o_U o_O (o_E.1, o_E.2.1, o_E.2.2.1, o_E.2.2.2.1, upd o_E.2.2.2.2.1 o_E.2.1.toNatClampNeg a1, upd o_E.2.2.2.2.2.1 o_E.2.1.toNatClampNeg a2, o_E.2.2.2.2.2.2) o_Q o_V o_I ++ wME cI ad (o_E.1, o_E.2.1, o_E.2.2.1, o_E.2.2.2.1, upd o_E.2.2.2.2.1 o_E.2.1.toNatClampNeg a1, upd o_E.2.2.2.2.2.1 o_E.2.1.toNatClampNeg a2, o_E.2.2.2.2.2.2)) := hD
  refine lv_aload_n hx hb dX8_waitFor_20 rfl (lv_at hl 0 rfl) ?_
  refine lv_dup hx hb dX8_waitFor_21 rfl ?_
  refine va_get (D := D) (ci := 8) (v := .int o_E.2.1) (C := RX8) (T := TX8) (N := 48) hx hb hts layX8 hown hK hP 0 rfl rfl 35 (by decide) (hts _ (inA q1013)) (fun _ h9 => h9) rfl dX8_waitFor_22 ?_
  refine lv_iconst (v := 1) hx hb dX8_waitFor_25 (by decide) ?_
  refine lv_iadd hx hb dX8_waitFor_26 ?_
  refine va_put (D := D) (ci := 8) (v := .int (o_E.2.1 + 1)) (ty := .int) (C := RX8) (T := TX8) (N := 48) hx hb hts layX8 tyX8 tyX8_ok nmX8 hown hK hP hD hS 0 rfl rfl 35 (by decide) (hts _ (inA q1013)) (fun _ h9 => h9) rfl (by decide +kernel) rfl rfl (Nat.le_of_ble_eq_true rfl) dX8_waitFor_27 (fun H locs hP hD hS => ?_)
  have hP : va_P D vwCl (wM0 ad o_X o_L o_N o_T o_U o_O (o_E.1, o_E.2.1 + 1, o_E.2.2.1, o_E.2.2.2.1, upd o_E.2.2.2.2.1 o_E.2.1.toNatClampNeg a1, upd o_E.2.2.2.2.2.1 o_E.2.1.toNatClampNeg a2, o_E.2.2.2.2.2.2) o_Q o_V o_I ++ wME cI ad (o_E.1, o_E.2.1 + 1, o_E.2.2.1, o_E.2.2.2.1, upd o_E.2.2.2.2.1 o_E.2.1.toNatClampNeg a1, upd o_E.2.2.2.2.2.1 o_E.2.1.toNatClampNeg a2, o_E.2.2.2.2.2.2)) H := hP
  have hD : va_D A (wM0 ad o_X o_L o_N o_T o_U o_O (o_E.1, o_E.2.1 + 1, o_E.2.2.1, o_E.2.2.2.1, upd o_E.2.2.2.2.1 o_E.2.1.toNatClampNeg a1, upd o_E.2.2.2.2.2.1 o_E.2.1.toNatClampNeg a2, o_E.2.2.2.2.2.2) o_Q o_V o_I ++ wME cI ad (o_E.1, o_E.2.1 + 1, o_E.2.2.1, o_E.2.2.2.1, upd o_E.2.2.2.2.1 o_E.2.1.toNatClampNeg a1, upd o_E.2.2.2.2.2.1 o_E.2.1.toNatClampNeg a2, o_E.2.2.2.2.2.2)) := hD
  cases hM
  exact rt_v hx hb hr hlk hP hD hS rfl dX8_waitFor_30

set_option maxHeartbeats 4000000 in
set_option maxRecDepth 100000 in
theorem c_Model_expression (l : Launch) (D : va_G) (cI : ClassId) (sd : Nat → Nat) (ad : Nat → Nat) (o_C : S_MC) (o_X : S_MX) (o_L : S_ML) (o_N : S_MN) (o_T : S_MT) (o_Q : S_MQ) (o_V : S_MV) (o_I : S_MI) (o_U : S_MU) (o_O : S_MO) (o_E : S_ME) (res : S_MU × S_MO × S_ME) (hM : f_Model_expression o_U o_O o_E = some res) : Ctr l D cI sd yX8_expression (wsM yX8_expression cX8_expression 1 (Option.none : Option Jvm.ClassFile.FieldType)) { frames := 2, cells := 0, slots := 0, locals := 43 } [.ref (ad 100)] (wM0 ad o_X o_L o_N o_T o_U o_O o_E o_Q o_V o_I ++ wMU cI ad o_U ++ wME cI ad o_E) (wM0 ad o_X o_L o_N o_T res.1 res.2.1 res.2.2 o_Q o_V o_I ++ wMU cI ad res.1 ++ wME cI ad res.2.2) none := by
  refine Ctr.of (cc := cX8_expression) (maxL := 1) (own := RX8) (by decide +kernel) rfl rfl (Nat.le_of_ble_eq_true rfl) ?_
  intro p e s m below meth c A ls hx hb hr hml hown hts hlk hK hE hA hP hD hS hl
  have hl : lv_has ls 1 [(0, .ref (ad 100))] := hl
  unfold f_Model_expression at hM
  refine lv_aload_n hx hb dX8_expression_0 rfl (lv_at hl 0 rfl) ?_
  refine lv_dup hx hb dX8_expression_1 rfl ?_
  refine va_get (D := D) (ci := 8) (v := .int o_O.2.2.1) (C := RX8) (T := TX8) (N := 48) hx hb hts layX8 hown hK hP 0 rfl rfl 29 (by decide) (hts _ (inA q1007)) (fun _ h9 => h9) rfl dX8_expression_2 ?_
  refine lv_iconst (v := 1) hx hb dX8_expression_5 (by decide) ?_
  refine lv_iadd hx hb dX8_expression_6 ?_
  refine va_put (D := D) (ci := 8) (v := .int (o_O.2.2.1 + 1)) (ty := .int) (C := RX8) (T := TX8) (N := 48) hx hb hts layX8 tyX8 tyX8_ok nmX8 hown hK hP hD hS 0 rfl rfl 29 (by decide) (hts _ (inA q1007)) (fun _ h9 => h9) rfl (by decide +kernel) rfl rfl (Nat.le_of_ble_eq_true rfl) dX8_expression_7 (fun H locs hP hD hS => ?_)
  have hP : va_P D vwCl (wM0 ad o_X o_L o_N o_T o_U (o_O.1, o_O.2.1, o_O.2.2.1 + 1, o_O.2.2.2) o_E o_Q o_V o_I ++ wMU cI ad o_U ++ wME cI ad o_E) H := hP
  have hD : va_D A (wM0 ad o_X o_L o_N o_T o_U (o_O.1, o_O.2.1, o_O.2.2.1 + 1, o_O.2.2.2) o_E o_Q o_V o_I ++ wMU cI ad o_U ++ wME cI ad o_E) := hD
  refine lv_aload_n hx hb dX8_expression_10 rfl (lv_at hl 0 rfl) ?_
  refine lv_iconst (v := (-1)) hx hb dX8_expression_11 (by decide) ?_
  refine lv_iconst (v := 0) hx hb dX8_expression_12 (by decide) ?_
  obtain ⟨r1, hcr1, hM⟩ := ob_use hM
  refine cl_V (As := [.int (-1), .int 0]) (rest := []) (wM0 ad o_X o_L o_N o_T o_U (o_O.1, o_O.2.1, o_O.2.2.1 + 1, o_O.2.2.2) r1 o_Q o_V o_I ++ wMU cI ad o_U ++ wME cI ad r1) [] ⟨hx, hb, hml, hown, hts⟩ (c_Model_waitFor l D cI sd ad o_C o_X o_L o_N o_T o_U (o_O.1, o_O.2.1, o_O.2.2.1 + 1, o_O.2.2.2) o_Q o_V o_I o_E (-1) 0 r1 hcr1) (cwV2 hts q1381 mvX8_waitFor rfl rfl ⟨(Nat.le_of_ble_eq_true rfl), (Nat.le_of_ble_eq_true rfl)⟩) hK hE hA hP hD hS 0 (T := TX8) (N := 48) (ci := 8) rfl rfl [0, 2, 3, 4, 5] rfl (by decide) rfl rfl rfl rfl rfl rfl hl.1 (Nat.le_of_ble_eq_true rfl) dX8_expression_13 ⟨Nat.zero_le _, Nat.zero_le _⟩ (fun H locs hP hD hS => ?_)
  refine lv_aload_n hx hb dX8_expression_16 rfl (lv_at hl 0 rfl) ?_
  refine lv_sipush (v := 136) hx hb dX8_expression_17 (by decide) ?_
  refine lv_sipush (v := 135) hx hb dX8_expression_20 (by decide) ?_
  obtain ⟨r2, hcr2, hM⟩ := ob_use hM
  refine cl_V (As := [.int 136, .int 135]) (rest := []) (wM0 ad o_X o_L o_N o_T r2 (o_O.1, o_O.2.1, o_O.2.2.1 + 1, o_O.2.2.2) r1 o_Q o_V o_I ++ wMU cI ad r2 ++ wME cI ad r1) [] ⟨hx, hb, hml, hown, hts⟩ (c_Model_push2 l D cI sd ad o_C o_X o_L o_N o_T (o_O.1, o_O.2.1, o_O.2.2.1 + 1, o_O.2.2.2) r1 o_Q o_V o_I o_U 136 135 r2 hcr2) (cwV2 hts q1257 mvX8_push2 rfl rfl ⟨(Nat.le_of_ble_eq_true rfl), (Nat.le_of_ble_eq_true rfl)⟩) hK hE hA hP hD hS 0 (T := TX8) (N := 48) (ci := 8) rfl rfl [0, 1] rfl (by decide) rfl rfl rfl rfl rfl rfl hl.1 (Nat.le_of_ble_eq_true rfl) dX8_expression_23 ⟨Nat.zero_le _, Nat.zero_le _⟩ (fun H locs hP hD hS => ?_)
  cases hM
  exact rt_v hx hb hr hlk hP hD hS rfl dX8_expression_26

set_option maxHeartbeats 4000000 in
set_option maxRecDepth 100000 in
theorem c_Model_signAt (l : Launch) (D : va_G) (cI : ClassId) (sd : Nat → Nat) (ad : Nat → Nat) (o_C : S_MC) (o_X : S_MX) (o_N : S_MN) (o_T : S_MT) (o_U : S_MU) (o_O : S_MO) (o_E : S_ME) (o_Q : S_MQ) (o_V : S_MV) (o_I : S_MI) (o_L : S_ML) (res : Int32) (hM : f_Model_signAt o_L = some res) : Ctr l D cI sd yX8_signAt (wsM yX8_signAt cX8_signAt 1 (Option.some Jvm.ClassFile.FieldType.int)) { frames := 0, cells := 0, slots := 0, locals := 0 } [.ref (ad 100)] (wM0 ad o_X o_L o_N o_T o_U o_O o_E o_Q o_V o_I) (wM0 ad o_X o_L o_N o_T o_U o_O o_E o_Q o_V o_I) (some (.int res)) := by
  refine Ctr.of (cc := cX8_signAt) (maxL := 1) (own := RX8) (by decide +kernel) rfl rfl (Nat.le_of_ble_eq_true rfl) ?_
  intro p e s m below meth c A ls hx hb hr hml hown hts hlk hK hE hA hP hD hS hl
  have hl : lv_has ls 1 [(0, .ref (ad 100))] := hl
  unfold f_Model_signAt at hM
  refine lv_aload_n hx hb dX8_signAt_0 rfl (lv_at hl 0 rfl) ?_
  refine va_get (D := D) (ci := 8) (v := .int o_L.2.1) (C := RX8) (T := TX8) (N := 48) hx hb hts layX8 hown hK hP 0 rfl rfl 7 (by decide) (hts _ (inA q985)) (fun _ h9 => h9) rfl dX8_signAt_1 ?_
  by_cases c1 : o_L.2.1 = 30
  · replace hM := if_t c1 hM
    refine lv_tableIn (tgt := 184) hx hb dX8_signAt_4 (by rw [c1]; decide) (by rw [c1]; decide) (by rw [c1]; rfl) (by decide) ?_
    refine lv_iconst (v := 0) hx hb dX8_signAt_184 (by decide) ?_
    cases hM
    exact rt_i hx hb hr hlk hP hD hS rfl dX8_signAt_185
  replace hM := if_f c1 hM
  by_cases c2 : o_L.2.1 = 31
  · replace hM := if_t c2 hM
    refine lv_tableIn (tgt := 186) hx hb dX8_signAt_4 (by rw [c2]; decide) (by rw [c2]; decide) (by rw [c2]; rfl) (by decide) ?_
    refine lv_iconst (v := 1) hx hb dX8_signAt_186 (by decide) ?_
    cases hM
    exact rt_i hx hb hr hlk hP hD hS rfl dX8_signAt_187
  replace hM := if_f c2 hM
  by_cases c3 : o_L.2.1 = 32
  · replace hM := if_t c3 hM
    refine lv_tableIn (tgt := 188) hx hb dX8_signAt_4 (by rw [c3]; decide) (by rw [c3]; decide) (by rw [c3]; rfl) (by decide) ?_
    refine lv_iconst (v := 2) hx hb dX8_signAt_188 (by decide) ?_
    cases hM
    exact rt_i hx hb hr hlk hP hD hS rfl dX8_signAt_189
  replace hM := if_f c3 hM
  by_cases c4 : o_L.2.1 = 33
  · replace hM := if_t c4 hM
    refine lv_tableIn (tgt := 217) hx hb dX8_signAt_4 (by rw [c4]; decide) (by rw [c4]; decide) (by rw [c4]; rfl) (by decide) ?_
    refine lv_bipush (v := 13) hx hb dX8_signAt_217 (by decide) ?_
    cases hM
    exact rt_i hx hb hr hlk hP hD hS rfl dX8_signAt_219
  replace hM := if_f c4 hM
  by_cases c5 : o_L.2.1 = 34
  · replace hM := if_t c5 hM
    refine lv_tableIn (tgt := 220) hx hb dX8_signAt_4 (by rw [c5]; decide) (by rw [c5]; decide) (by rw [c5]; rfl) (by decide) ?_
    refine lv_iconst (v := (-1)) hx hb dX8_signAt_220 (by decide) ?_
    cases hM
    exact rt_i hx hb hr hlk hP hD hS rfl dX8_signAt_221
  replace hM := if_f c5 hM
  by_cases c6 : o_L.2.1 = 35
  · replace hM := if_t c6 hM
    refine lv_tableIn (tgt := 220) hx hb dX8_signAt_4 (by rw [c6]; decide) (by rw [c6]; decide) (by rw [c6]; rfl) (by decide) ?_
    refine lv_iconst (v := (-1)) hx hb dX8_signAt_220 (by decide) ?_
    cases hM
    exact rt_i hx hb hr hlk hP hD hS rfl dX8_signAt_221
  replace hM := if_f c6 hM
  by_cases c7 : o_L.2.1 = 36
  · replace hM := if_t c7 hM
    refine lv_tableIn (tgt := 220) hx hb dX8_signAt_4 (by rw [c7]; decide) (by rw [c7]; decide) (by rw [c7]; rfl) (by decide) ?_
    refine lv_iconst (v := (-1)) hx hb dX8_signAt_220 (by decide) ?_
    cases hM
    exact rt_i hx hb hr hlk hP hD hS rfl dX8_signAt_221
  replace hM := if_f c7 hM
  by_cases c8 : o_L.2.1 = 37
  · replace hM := if_t c8 hM
    refine lv_tableIn (tgt := 220) hx hb dX8_signAt_4 (by rw [c8]; decide) (by rw [c8]; decide) (by rw [c8]; rfl) (by decide) ?_
    refine lv_iconst (v := (-1)) hx hb dX8_signAt_220 (by decide) ?_
    cases hM
    exact rt_i hx hb hr hlk hP hD hS rfl dX8_signAt_221
  replace hM := if_f c8 hM
  by_cases c9 : o_L.2.1 = 38
  · replace hM := if_t c9 hM
    refine lv_tableIn (tgt := 220) hx hb dX8_signAt_4 (by rw [c9]; decide) (by rw [c9]; decide) (by rw [c9]; rfl) (by decide) ?_
    refine lv_iconst (v := (-1)) hx hb dX8_signAt_220 (by decide) ?_
    cases hM
    exact rt_i hx hb hr hlk hP hD hS rfl dX8_signAt_221
  replace hM := if_f c9 hM
  by_cases c10 : o_L.2.1 = 39
  · replace hM := if_t c10 hM
    refine lv_tableIn (tgt := 220) hx hb dX8_signAt_4 (by rw [c10]; decide) (by rw [c10]; decide) (by rw [c10]; rfl) (by decide) ?_
    refine lv_iconst (v := (-1)) hx hb dX8_signAt_220 (by decide) ?_
    cases hM
    exact rt_i hx hb hr hlk hP hD hS rfl dX8_signAt_221
  replace hM := if_f c10 hM
  by_cases c11 : o_L.2.1 = 40
  · replace hM := if_t c11 hM
    refine lv_tableIn (tgt := 220) hx hb dX8_signAt_4 (by rw [c11]; decide) (by rw [c11]; decide) (by rw [c11]; rfl) (by decide) ?_
    refine lv_iconst (v := (-1)) hx hb dX8_signAt_220 (by decide) ?_
    cases hM
    exact rt_i hx hb hr hlk hP hD hS rfl dX8_signAt_221
  replace hM := if_f c11 hM
  by_cases c12 : o_L.2.1 = 41
  · replace hM := if_t c12 hM
    refine lv_tableIn (tgt := 220) hx hb dX8_signAt_4 (by rw [c12]; decide) (by rw [c12]; decide) (by rw [c12]; rfl) (by decide) ?_
    refine lv_iconst (v := (-1)) hx hb dX8_signAt_220 (by decide) ?_
    cases hM
    exact rt_i hx hb hr hlk hP hD hS rfl dX8_signAt_221
  replace hM := if_f c12 hM
  by_cases c13 : o_L.2.1 = 42
  · replace hM := if_t c13 hM
    refine lv_tableIn (tgt := 220) hx hb dX8_signAt_4 (by rw [c13]; decide) (by rw [c13]; decide) (by rw [c13]; rfl) (by decide) ?_
    refine lv_iconst (v := (-1)) hx hb dX8_signAt_220 (by decide) ?_
    cases hM
    exact rt_i hx hb hr hlk hP hD hS rfl dX8_signAt_221
  replace hM := if_f c13 hM
  by_cases c14 : o_L.2.1 = 43
  · replace hM := if_t c14 hM
    refine lv_tableIn (tgt := 220) hx hb dX8_signAt_4 (by rw [c14]; decide) (by rw [c14]; decide) (by rw [c14]; rfl) (by decide) ?_
    refine lv_iconst (v := (-1)) hx hb dX8_signAt_220 (by decide) ?_
    cases hM
    exact rt_i hx hb hr hlk hP hD hS rfl dX8_signAt_221
  replace hM := if_f c14 hM
  by_cases c15 : o_L.2.1 = 44
  · replace hM := if_t c15 hM
    refine lv_tableIn (tgt := 220) hx hb dX8_signAt_4 (by rw [c15]; decide) (by rw [c15]; decide) (by rw [c15]; rfl) (by decide) ?_
    refine lv_iconst (v := (-1)) hx hb dX8_signAt_220 (by decide) ?_
    cases hM
    exact rt_i hx hb hr hlk hP hD hS rfl dX8_signAt_221
  replace hM := if_f c15 hM
  by_cases c16 : o_L.2.1 = 45
  · replace hM := if_t c16 hM
    refine lv_tableIn (tgt := 220) hx hb dX8_signAt_4 (by rw [c16]; decide) (by rw [c16]; decide) (by rw [c16]; rfl) (by decide) ?_
    refine lv_iconst (v := (-1)) hx hb dX8_signAt_220 (by decide) ?_
    cases hM
    exact rt_i hx hb hr hlk hP hD hS rfl dX8_signAt_221
  replace hM := if_f c16 hM
  by_cases c17 : o_L.2.1 = 46
  · replace hM := if_t c17 hM
    refine lv_tableIn (tgt := 220) hx hb dX8_signAt_4 (by rw [c17]; decide) (by rw [c17]; decide) (by rw [c17]; rfl) (by decide) ?_
    refine lv_iconst (v := (-1)) hx hb dX8_signAt_220 (by decide) ?_
    cases hM
    exact rt_i hx hb hr hlk hP hD hS rfl dX8_signAt_221
  replace hM := if_f c17 hM
  by_cases c18 : o_L.2.1 = 47
  · replace hM := if_t c18 hM
    refine lv_tableIn (tgt := 220) hx hb dX8_signAt_4 (by rw [c18]; decide) (by rw [c18]; decide) (by rw [c18]; rfl) (by decide) ?_
    refine lv_iconst (v := (-1)) hx hb dX8_signAt_220 (by decide) ?_
    cases hM
    exact rt_i hx hb hr hlk hP hD hS rfl dX8_signAt_221
  replace hM := if_f c18 hM
  by_cases c19 : o_L.2.1 = 48
  · replace hM := if_t c19 hM
    refine lv_tableIn (tgt := 220) hx hb dX8_signAt_4 (by rw [c19]; decide) (by rw [c19]; decide) (by rw [c19]; rfl) (by decide) ?_
    refine lv_iconst (v := (-1)) hx hb dX8_signAt_220 (by decide) ?_
    cases hM
    exact rt_i hx hb hr hlk hP hD hS rfl dX8_signAt_221
  replace hM := if_f c19 hM
  by_cases c20 : o_L.2.1 = 49
  · replace hM := if_t c20 hM
    refine lv_tableIn (tgt := 220) hx hb dX8_signAt_4 (by rw [c20]; decide) (by rw [c20]; decide) (by rw [c20]; rfl) (by decide) ?_
    refine lv_iconst (v := (-1)) hx hb dX8_signAt_220 (by decide) ?_
    cases hM
    exact rt_i hx hb hr hlk hP hD hS rfl dX8_signAt_221
  replace hM := if_f c20 hM
  by_cases c21 : o_L.2.1 = 50
  · replace hM := if_t c21 hM
    refine lv_tableIn (tgt := 220) hx hb dX8_signAt_4 (by rw [c21]; decide) (by rw [c21]; decide) (by rw [c21]; rfl) (by decide) ?_
    refine lv_iconst (v := (-1)) hx hb dX8_signAt_220 (by decide) ?_
    cases hM
    exact rt_i hx hb hr hlk hP hD hS rfl dX8_signAt_221
  replace hM := if_f c21 hM
  by_cases c22 : o_L.2.1 = 51
  · replace hM := if_t c22 hM
    refine lv_tableIn (tgt := 220) hx hb dX8_signAt_4 (by rw [c22]; decide) (by rw [c22]; decide) (by rw [c22]; rfl) (by decide) ?_
    refine lv_iconst (v := (-1)) hx hb dX8_signAt_220 (by decide) ?_
    cases hM
    exact rt_i hx hb hr hlk hP hD hS rfl dX8_signAt_221
  replace hM := if_f c22 hM
  by_cases c23 : o_L.2.1 = 52
  · replace hM := if_t c23 hM
    refine lv_tableIn (tgt := 199) hx hb dX8_signAt_4 (by rw [c23]; decide) (by rw [c23]; decide) (by rw [c23]; rfl) (by decide) ?_
    refine lv_bipush (v := 7) hx hb dX8_signAt_199 (by decide) ?_
    cases hM
    exact rt_i hx hb hr hlk hP hD hS rfl dX8_signAt_201
  replace hM := if_f c23 hM
  by_cases c24 : o_L.2.1 = 53
  · replace hM := if_t c24 hM
    refine lv_tableIn (tgt := 202) hx hb dX8_signAt_4 (by rw [c24]; decide) (by rw [c24]; decide) (by rw [c24]; rfl) (by decide) ?_
    refine lv_bipush (v := 8) hx hb dX8_signAt_202 (by decide) ?_
    cases hM
    exact rt_i hx hb hr hlk hP hD hS rfl dX8_signAt_204
  replace hM := if_f c24 hM
  by_cases c25 : o_L.2.1 = 54
  · replace hM := if_t c25 hM
    refine lv_tableIn (tgt := 192) hx hb dX8_signAt_4 (by rw [c25]; decide) (by rw [c25]; decide) (by rw [c25]; rfl) (by decide) ?_
    refine lv_iconst (v := 4) hx hb dX8_signAt_192 (by decide) ?_
    cases hM
    exact rt_i hx hb hr hlk hP hD hS rfl dX8_signAt_193
  replace hM := if_f c25 hM
  by_cases c26 : o_L.2.1 = 55
  · replace hM := if_t c26 hM
    refine lv_tableIn (tgt := 220) hx hb dX8_signAt_4 (by rw [c26]; decide) (by rw [c26]; decide) (by rw [c26]; rfl) (by decide) ?_
    refine lv_iconst (v := (-1)) hx hb dX8_signAt_220 (by decide) ?_
    cases hM
    exact rt_i hx hb hr hlk hP hD hS rfl dX8_signAt_221
  replace hM := if_f c26 hM
  by_cases c27 : o_L.2.1 = 56
  · replace hM := if_t c27 hM
    refine lv_tableIn (tgt := 220) hx hb dX8_signAt_4 (by rw [c27]; decide) (by rw [c27]; decide) (by rw [c27]; rfl) (by decide) ?_
    refine lv_iconst (v := (-1)) hx hb dX8_signAt_220 (by decide) ?_
    cases hM
    exact rt_i hx hb hr hlk hP hD hS rfl dX8_signAt_221
  replace hM := if_f c27 hM
  by_cases c28 : o_L.2.1 = 57
  · replace hM := if_t c28 hM
    refine lv_tableIn (tgt := 220) hx hb dX8_signAt_4 (by rw [c28]; decide) (by rw [c28]; decide) (by rw [c28]; rfl) (by decide) ?_
    refine lv_iconst (v := (-1)) hx hb dX8_signAt_220 (by decide) ?_
    cases hM
    exact rt_i hx hb hr hlk hP hD hS rfl dX8_signAt_221
  replace hM := if_f c28 hM
  by_cases c29 : o_L.2.1 = 58
  · replace hM := if_t c29 hM
    refine lv_tableIn (tgt := 220) hx hb dX8_signAt_4 (by rw [c29]; decide) (by rw [c29]; decide) (by rw [c29]; rfl) (by decide) ?_
    refine lv_iconst (v := (-1)) hx hb dX8_signAt_220 (by decide) ?_
    cases hM
    exact rt_i hx hb hr hlk hP hD hS rfl dX8_signAt_221
  replace hM := if_f c29 hM
  by_cases c30 : o_L.2.1 = 59
  · replace hM := if_t c30 hM
    refine lv_tableIn (tgt := 220) hx hb dX8_signAt_4 (by rw [c30]; decide) (by rw [c30]; decide) (by rw [c30]; rfl) (by decide) ?_
    refine lv_iconst (v := (-1)) hx hb dX8_signAt_220 (by decide) ?_
    cases hM
    exact rt_i hx hb hr hlk hP hD hS rfl dX8_signAt_221
  replace hM := if_f c30 hM
  by_cases c31 : o_L.2.1 = 60
  · replace hM := if_t c31 hM
    refine lv_tableIn (tgt := 220) hx hb dX8_signAt_4 (by rw [c31]; decide) (by rw [c31]; decide) (by rw [c31]; rfl) (by decide) ?_
    refine lv_iconst (v := (-1)) hx hb dX8_signAt_220 (by decide) ?_
    cases hM
    exact rt_i hx hb hr hlk hP hD hS rfl dX8_signAt_221
  replace hM := if_f c31 hM
  by_cases c32 : o_L.2.1 = 61
  · replace hM := if_t c32 hM
    refine lv_tableIn (tgt := 220) hx hb dX8_signAt_4 (by rw [c32]; decide) (by rw [c32]; decide) (by rw [c32]; rfl) (by decide) ?_
    refine lv_iconst (v := (-1)) hx hb dX8_signAt_220 (by decide) ?_
    cases hM
    exact rt_i hx hb hr hlk hP hD hS rfl dX8_signAt_221
  replace hM := if_f c32 hM
  by_cases c33 : o_L.2.1 = 62
  · replace hM := if_t c33 hM
    refine lv_tableIn (tgt := 220) hx hb dX8_signAt_4 (by rw [c33]; decide) (by rw [c33]; decide) (by rw [c33]; rfl) (by decide) ?_
    refine lv_iconst (v := (-1)) hx hb dX8_signAt_220 (by decide) ?_
    cases hM
    exact rt_i hx hb hr hlk hP hD hS rfl dX8_signAt_221
  replace hM := if_f c33 hM
  by_cases c34 : o_L.2.1 = 63
  · replace hM := if_t c34 hM
    refine lv_tableIn (tgt := 205) hx hb dX8_signAt_4 (by rw [c34]; decide) (by rw [c34]; decide) (by rw [c34]; rfl) (by decide) ?_
    refine lv_bipush (v := 9) hx hb dX8_signAt_205 (by decide) ?_
    cases hM
    exact rt_i hx hb hr hlk hP hD hS rfl dX8_signAt_207
  replace hM := if_f c34 hM
  by_cases c35 : o_L.2.1 = 64
  · replace hM := if_t c35 hM
    refine lv_tableIn (tgt := 208) hx hb dX8_signAt_4 (by rw [c35]; decide) (by rw [c35]; decide) (by rw [c35]; rfl) (by decide) ?_
    refine lv_bipush (v := 10) hx hb dX8_signAt_208 (by decide) ?_
    cases hM
    exact rt_i hx hb hr hlk hP hD hS rfl dX8_signAt_210
  replace hM := if_f c35 hM
  by_cases c36 : o_L.2.1 = 65
  · replace hM := if_t c36 hM
    refine lv_tableIn (tgt := 211) hx hb dX8_signAt_4 (by rw [c36]; decide) (by rw [c36]; decide) (by rw [c36]; rfl) (by decide) ?_
    refine lv_bipush (v := 11) hx hb dX8_signAt_211 (by decide) ?_
    cases hM
    exact rt_i hx hb hr hlk hP hD hS rfl dX8_signAt_213
  replace hM := if_f c36 hM
  by_cases c37 : o_L.2.1 = 66
  · replace hM := if_t c37 hM
    refine lv_tableIn (tgt := 214) hx hb dX8_signAt_4 (by rw [c37]; decide) (by rw [c37]; decide) (by rw [c37]; rfl) (by decide) ?_
    refine lv_bipush (v := 12) hx hb dX8_signAt_214 (by decide) ?_
    cases hM
    exact rt_i hx hb hr hlk hP hD hS rfl dX8_signAt_216
  replace hM := if_f c37 hM
  by_cases c38 : o_L.2.1 = 67
  · replace hM := if_t c38 hM
    refine lv_tableIn (tgt := 190) hx hb dX8_signAt_4 (by rw [c38]; decide) (by rw [c38]; decide) (by rw [c38]; rfl) (by decide) ?_
    refine lv_iconst (v := 3) hx hb dX8_signAt_190 (by decide) ?_
    cases hM
    exact rt_i hx hb hr hlk hP hD hS rfl dX8_signAt_191
  replace hM := if_f c38 hM
  by_cases c39 : o_L.2.1 = 68
  · replace hM := if_t c39 hM
    refine lv_tableIn (tgt := 194) hx hb dX8_signAt_4 (by rw [c39]; decide) (by rw [c39]; decide) (by rw [c39]; rfl) (by decide) ?_
    refine lv_iconst (v := 5) hx hb dX8_signAt_194 (by decide) ?_
    cases hM
    exact rt_i hx hb hr hlk hP hD hS rfl dX8_signAt_195
  replace hM := if_f c39 hM
  by_cases c40 : o_L.2.1 = 69
  · replace hM := if_t c40 hM
    refine lv_tableIn (tgt := 196) hx hb dX8_signAt_4 (by rw [c40]; decide) (by rw [c40]; decide) (by rw [c40]; rfl) (by decide) ?_
    refine lv_bipush (v := 6) hx hb dX8_signAt_196 (by decide) ?_
    cases hM
    exact rt_i hx hb hr hlk hP hD hS rfl dX8_signAt_198
  replace hM := if_f c40 hM
  by_cases c41 : o_L.2.1 = 70
  · replace hM := if_t c41 hM
    refine lv_tableIn (tgt := 188) hx hb dX8_signAt_4 (by rw [c41]; decide) (by rw [c41]; decide) (by rw [c41]; rfl) (by decide) ?_
    refine lv_iconst (v := 2) hx hb dX8_signAt_188 (by decide) ?_
    cases hM
    exact rt_i hx hb hr hlk hP hD hS rfl dX8_signAt_189
  replace hM := if_f c41 hM
  refine lv_tableOut (tgt := 220) hx hb dX8_signAt_4 (by have := lv_neT c1 (show (30 : Int32).toInt = 30 by decide); have := lv_neT c2 (show (31 : Int32).toInt = 31 by decide); have := lv_neT c3 (show (32 : Int32).toInt = 32 by decide); have := lv_neT c4 (show (33 : Int32).toInt = 33 by decide); have := lv_neT c5 (show (34 : Int32).toInt = 34 by decide); have := lv_neT c6 (show (35 : Int32).toInt = 35 by decide); have := lv_neT c7 (show (36 : Int32).toInt = 36 by decide); have := lv_neT c8 (show (37 : Int32).toInt = 37 by decide); have := lv_neT c9 (show (38 : Int32).toInt = 38 by decide); have := lv_neT c10 (show (39 : Int32).toInt = 39 by decide); have := lv_neT c11 (show (40 : Int32).toInt = 40 by decide); have := lv_neT c12 (show (41 : Int32).toInt = 41 by decide); have := lv_neT c13 (show (42 : Int32).toInt = 42 by decide); have := lv_neT c14 (show (43 : Int32).toInt = 43 by decide); have := lv_neT c15 (show (44 : Int32).toInt = 44 by decide); have := lv_neT c16 (show (45 : Int32).toInt = 45 by decide); have := lv_neT c17 (show (46 : Int32).toInt = 46 by decide); have := lv_neT c18 (show (47 : Int32).toInt = 47 by decide); have := lv_neT c19 (show (48 : Int32).toInt = 48 by decide); have := lv_neT c20 (show (49 : Int32).toInt = 49 by decide); have := lv_neT c21 (show (50 : Int32).toInt = 50 by decide); have := lv_neT c22 (show (51 : Int32).toInt = 51 by decide); have := lv_neT c23 (show (52 : Int32).toInt = 52 by decide); have := lv_neT c24 (show (53 : Int32).toInt = 53 by decide); have := lv_neT c25 (show (54 : Int32).toInt = 54 by decide); have := lv_neT c26 (show (55 : Int32).toInt = 55 by decide); have := lv_neT c27 (show (56 : Int32).toInt = 56 by decide); have := lv_neT c28 (show (57 : Int32).toInt = 57 by decide); have := lv_neT c29 (show (58 : Int32).toInt = 58 by decide); have := lv_neT c30 (show (59 : Int32).toInt = 59 by decide); have := lv_neT c31 (show (60 : Int32).toInt = 60 by decide); have := lv_neT c32 (show (61 : Int32).toInt = 61 by decide); have := lv_neT c33 (show (62 : Int32).toInt = 62 by decide); have := lv_neT c34 (show (63 : Int32).toInt = 63 by decide); have := lv_neT c35 (show (64 : Int32).toInt = 64 by decide); have := lv_neT c36 (show (65 : Int32).toInt = 65 by decide); have := lv_neT c37 (show (66 : Int32).toInt = 66 by decide); have := lv_neT c38 (show (67 : Int32).toInt = 67 by decide); have := lv_neT c39 (show (68 : Int32).toInt = 68 by decide); have := lv_neT c40 (show (69 : Int32).toInt = 69 by decide); have := lv_neT c41 (show (70 : Int32).toInt = 70 by decide); omega) (by decide) ?_
  refine lv_iconst (v := (-1)) hx hb dX8_signAt_220 (by decide) ?_
  cases hM
  exact rt_i hx hb hr hlk hP hD hS rfl dX8_signAt_221

set_option maxHeartbeats 4000000 in
set_option maxRecDepth 100000 in
theorem c_Model_closeness (l : Launch) (D : va_G) (cI : ClassId) (sd : Nat → Nat) (ad : Nat → Nat) (a1 : Int32) (res : Int32) (hM : f_Model_closeness a1 = some res) : Ctr l D cI sd yX8_closeness (wsM yX8_closeness cX8_closeness 1 (Option.some Jvm.ClassFile.FieldType.int)) { frames := 0, cells := 0, slots := 0, locals := 0 } [.int a1] (([] : va_W)) (([] : va_W)) (some (.int res)) := by
  refine Ctr.of (cc := cX8_closeness) (maxL := 1) (own := RX8) (by decide +kernel) rfl rfl (Nat.le_of_ble_eq_true rfl) ?_
  intro p e s m below meth c A ls hx hb hr hml hown hts hlk hK hE hA hP hD hS hl
  have hl : lv_has ls 1 [(0, .int a1)] := hl
  unfold f_Model_closeness at hM
  refine lv_iload_n hx hb dX8_closeness_0 rfl (lv_at hl 0 rfl) ?_
  refine lv_iconst (v := 3) hx hb dX8_closeness_1 (by decide) ?_
  refine lv_icmp_ge (tgt := 9) hx hb dX8_closeness_2 (by decide) (fun c1 => ?_) (fun c1 => ?_)
  · replace hM := if_t c1 hM
    refine lv_iload_n hx hb dX8_closeness_9 rfl (lv_at hl 0 rfl) ?_
    refine lv_iconst (v := 5) hx hb dX8_closeness_10 (by decide) ?_
    refine lv_icmp_ge (tgt := 18) hx hb dX8_closeness_11 (by decide) (fun c2 => ?_) (fun c2 => ?_)
    · replace hM := if_t c2 hM
      refine lv_iload_n hx hb dX8_closeness_18 rfl (lv_at hl 0 rfl) ?_
      refine lv_bipush (v := 9) hx hb dX8_closeness_19 (by decide) ?_
      refine lv_icmp_ge (tgt := 28) hx hb dX8_closeness_21 (by decide) (fun c3 => ?_) (fun c3 => ?_)
      · replace hM := if_t c3 hM
        refine lv_iload_n hx hb dX8_closeness_28 rfl (lv_at hl 0 rfl) ?_
        refine lv_bipush (v := 11) hx hb dX8_closeness_29 (by decide) ?_
        refine lv_icmp_ge (tgt := 38) hx hb dX8_closeness_31 (by decide) (fun c4 => ?_) (fun c4 => ?_)
        · replace hM := if_t c4 hM
          refine lv_iload_n hx hb dX8_closeness_38 rfl (lv_at hl 0 rfl) ?_
          refine lv_bipush (v := 20) hx hb dX8_closeness_39 (by decide) ?_
          refine lv_icmp_ge (tgt := 49) hx hb dX8_closeness_41 (by decide) (fun c5 => ?_) (fun c5 => ?_)
          · replace hM := if_t c5 hM
            refine lv_bipush (v := 7) hx hb dX8_closeness_49 (by decide) ?_
            cases hM
            exact rt_i hx hb hr hlk hP hD hS rfl dX8_closeness_51
          · replace hM := if_f c5 hM
            refine lv_bipush (v := 6) hx hb dX8_closeness_44 (by decide) ?_
            refine lv_goto (tgt := 51) hx hb dX8_closeness_46 (by decide) ?_
            cases hM
            exact rt_i hx hb hr hlk hP hD hS rfl dX8_closeness_51
        · replace hM := if_f c4 hM
          refine lv_iconst (v := 5) hx hb dX8_closeness_34 (by decide) ?_
          refine lv_goto (tgt := 51) hx hb dX8_closeness_35 (by decide) ?_
          cases hM
          exact rt_i hx hb hr hlk hP hD hS rfl dX8_closeness_51
      · replace hM := if_f c3 hM
        refine lv_iconst (v := 4) hx hb dX8_closeness_24 (by decide) ?_
        refine lv_goto (tgt := 51) hx hb dX8_closeness_25 (by decide) ?_
        cases hM
        exact rt_i hx hb hr hlk hP hD hS rfl dX8_closeness_51
    · replace hM := if_f c2 hM
      refine lv_iconst (v := 3) hx hb dX8_closeness_14 (by decide) ?_
      refine lv_goto (tgt := 51) hx hb dX8_closeness_15 (by decide) ?_
      cases hM
      exact rt_i hx hb hr hlk hP hD hS rfl dX8_closeness_51
  · replace hM := if_f c1 hM
    refine lv_iload_n hx hb dX8_closeness_5 rfl (lv_at hl 0 rfl) ?_
    refine lv_goto (tgt := 51) hx hb dX8_closeness_6 (by decide) ?_
    cases hM
    exact rt_i hx hb hr hlk hP hD hS rfl dX8_closeness_51

set_option maxHeartbeats 4000000 in
set_option maxRecDepth 100000 in
theorem c_Model_settle (l : Launch) (D : va_G) (cI : ClassId) (sd : Nat → Nat) (ad : Nat → Nat) (o_C : S_MC) (o_X : S_MX) (o_L : S_ML) (o_N : S_MN) (o_U : S_MU) (o_Q : S_MQ) (o_V : S_MV) (o_I : S_MI) (o_T : S_MT) (o_O : S_MO) (o_E : S_ME) (res : S_MT × S_MO × S_ME) (hM : f_Model_settle o_T o_O o_E = some res) : Ctr l D cI sd yX8_settle (wsM yX8_settle cX8_settle 4 (Option.none : Option Jvm.ClassFile.FieldType)) { frames := 1, cells := 0, slots := 0, locals := 23 } [.ref (ad 100)] (wM0 ad o_X o_L o_N o_T o_U o_O o_E o_Q o_V o_I ++ wMT cI ad o_T ++ wME cI ad o_E) (wM0 ad o_X o_L o_N res.1 o_U res.2.1 res.2.2 o_Q o_V o_I ++ wMT cI ad res.1 ++ wME cI ad res.2.2) none := by
  refine Ctr.of (cc := cX8_settle) (maxL := 4) (own := RX8) (by decide +kernel) rfl rfl (Nat.le_of_ble_eq_true rfl) ?_
  intro p e s m below meth c A ls hx hb hr hml hown hts hlk hK hE hA hP hD hS hl
  have hl : lv_has ls 4 [(0, .ref (ad 100))] := hl
  unfold f_Model_settle at hM
  refine lv_aload_n hx hb dX8_settle_0 rfl (lv_at hl 0 rfl) ?_
  refine lv_dup hx hb dX8_settle_1 rfl ?_
  refine va_get (D := D) (ci := 8) (v := .int o_E.2.1) (C := RX8) (T := TX8) (N := 48) hx hb hts layX8 hown hK hP 0 rfl rfl 35 (by decide) (hts _ (inA q1013)) (fun _ h9 => h9) rfl dX8_settle_2 ?_
  refine lv_iconst (v := 1) hx hb dX8_settle_5 (by decide) ?_
  refine lv_isub hx hb dX8_settle_6 ?_
  refine va_put (D := D) (ci := 8) (v := .int (o_E.2.1 - 1)) (ty := .int) (C := RX8) (T := TX8) (N := 48) hx hb hts layX8 tyX8 tyX8_ok nmX8 hown hK hP hD hS 0 rfl rfl 35 (by decide) (hts _ (inA q1013)) (fun _ h9 => h9) rfl (by decide +kernel) rfl rfl (Nat.le_of_ble_eq_true rfl) dX8_settle_7 (fun H locs hP hD hS => ?_)
  have hP : va_P D vwCl (wM0 ad o_X o_L o_N o_T o_U o_O (o_E.1, o_E.2.1 - 1, o_E.2.2) o_Q o_V o_I ++ wMT cI ad o_T ++ wME cI ad (o_E.1, o_E.2.1 - 1, o_E.2.2)) H := hP
  have hD : va_D A (wM0 ad o_X o_L o_N o_T o_U o_O (o_E.1, o_E.2.1 - 1, o_E.2.2) o_Q o_V o_I ++ wMT cI ad o_T ++ wME cI ad (o_E.1, o_E.2.1 - 1, o_E.2.2)) := hD
  refine lv_aload_n hx hb dX8_settle_10 rfl (lv_at hl 0 rfl) ?_
  refine va_get (D := D) (ci := 8) (v := .ref (ad 117)) (C := RX8) (T := TX8) (N := 48) hx hb hts layX8 hown hK hP 0 rfl rfl 36 (by decide) (hts _ (inA q1014)) (fun _ h9 => h9) rfl dX8_settle_11 ?_
  refine lv_aload_n hx hb dX8_settle_14 rfl (lv_at hl 0 rfl) ?_
  refine va_get (D := D) (ci := 8) (v := .int (o_E.2.1 - 1)) (C := RX8) (T := TX8) (N := 48) hx hb hts layX8 hown hK hP 0 rfl rfl 35 (by decide) (hts _ (inA q1013)) (fun _ h9 => h9) rfl dX8_settle_15 ?_
  obtain ⟨b1, hM⟩ := gd_use hM
  refine va_iald hx hb hK hP 9 0 rfl rfl b1 dX8_settle_18 ?_
  refine lv_topi (fun x2 ex2 => ?_)
  replace hM := nm_use ex2 hM
  refine lv_istore_n (lv' := [(1, .int x2), (0, .ref (ad 100))]) hx hb dX8_settle_19 rfl hl (by decide) rfl (fun ls hl => ?_)
  refine lv_aload_n hx hb dX8_settle_20 rfl (lv_at hl 1 rfl) ?_
  obtain ⟨r3, hcr3, hM⟩ := ob_use hM
  refine cl_V (As := []) (rest := []) (wM0 ad o_X o_L o_N o_T o_U o_O r3.2 o_Q o_V o_I ++ wMT cI ad o_T ++ wME cI ad r3.2) (.int r3.1 :: []) ⟨hx, hb, hml, hown, hts⟩ (c_Model_takeOperand l D cI sd ad o_C o_X o_L o_N o_T o_U o_O o_Q o_V o_I (o_E.1, o_E.2.1 - 1, o_E.2.2) r3 hcr3) (cwV2 hts q1401 mvX8_takeOperand rfl rfl ⟨(Nat.le_of_ble_eq_true rfl), (Nat.le_of_ble_eq_true rfl)⟩) hK hE hA hP hD hS 0 (T := TX8) (N := 48) (ci := 8) rfl rfl [0, 8, 9, 10, 11] rfl (by decide) rfl rfl rfl rfl rfl rfl hl.1 (Nat.le_of_ble_eq_true rfl) dX8_settle_21 ⟨Nat.zero_le _, Nat.zero_le _⟩ (fun H locs hP hD hS => ?_)
  refine lv_istore_n (lv' := [(2, .int r3.1), (1, .int x2), (0, .ref (ad 100))]) hx hb dX8_settle_24 rfl hl (by decide) rfl (fun ls hl => ?_)
  refine lv_aload_n hx hb dX8_settle_25 rfl (lv_at hl 2 rfl) ?_
  refine lv_iload_n hx hb dX8_settle_26 rfl (lv_at hl 1 rfl) ?_
  refine lv_bipush (v := 20) hx hb dX8_settle_27 (by decide) ?_
  refine lv_icmp_ge (tgt := 37) hx hb dX8_settle_29 (by decide) (fun c4 => ?_) (fun c4 => ?_)
  · replace hM := if_t c4 hM
    refine lv_bipush (v := 36) hx hb dX8_settle_37 (by decide) ?_
    refine lv_aload_n hx hb dX8_settle_39 rfl (lv_at hl 2 rfl) ?_
    refine va_get (D := D) (ci := 8) (v := .ref (ad 118)) (C := RX8) (T := TX8) (N := 48) hx hb hts layX8 hown hK hP 0 rfl rfl 37 (by decide) (hts _ (inA q1015)) (fun _ h9 => h9) rfl dX8_settle_40 ?_
    refine lv_aload_n hx hb dX8_settle_43 rfl (lv_at hl 2 rfl) ?_
    refine va_get (D := D) (ci := 8) (v := .int r3.2.2.1) (C := RX8) (T := TX8) (N := 48) hx hb hts layX8 hown hK hP 0 rfl rfl 35 (by decide) (hts _ (inA q1013)) (fun _ h9 => h9) rfl dX8_settle_44 ?_
    obtain ⟨b5, hM⟩ := gd_use hM
    refine va_iald hx hb hK hP 10 0 rfl rfl b5 dX8_settle_47 ?_
    refine lv_iload_n hx hb dX8_settle_48 rfl (lv_at hl 1 rfl) ?_
    refine lv_bipush (v := 20) hx hb dX8_settle_49 (by decide) ?_
    refine lv_icmp_ge (tgt := 58) hx hb dX8_settle_51 (by decide) (fun c6 => ?_) (fun c6 => ?_)
    · replace hM := if_t c6 hM
      refine lv_iload_n hx hb dX8_settle_58 rfl (lv_at hl 1 rfl) ?_
      refine lv_bipush (v := 20) hx hb dX8_settle_59 (by decide) ?_
      refine lv_isub hx hb dX8_settle_61 ?_
      obtain ⟨r7, hcr7, hM⟩ := ob_use hM
      refine cl_V (As := [.int 36, .int (r3.2.2.2.2.2.2.1 r3.2.2.1.toNatClampNeg), .int (x2 - 20)]) (rest := []) (wM0 ad o_X o_L o_N r7.2 o_U o_O r3.2 o_Q o_V o_I ++ wMT cI ad r7.2 ++ wME cI ad r3.2) (.int r7.1 :: []) ⟨hx, hb, hml, hown, hts⟩ (c_Model_make l D cI sd ad o_C o_X o_L o_N o_U o_O r3.2 o_Q o_V o_I o_T 36 (r3.2.2.2.2.2.2.1 r3.2.2.1.toNatClampNeg) (x2 - 20) r7 hcr7) (cwV2 hts q1143 mvX8_make rfl rfl ⟨(Nat.le_of_ble_eq_true rfl), (Nat.le_of_ble_eq_true rfl)⟩) hK hE hA hP hD hS 0 (T := TX8) (N := 48) (ci := 8) rfl rfl [0, 1, 2, 3, 4, 5, 6, 7] rfl (by decide) rfl rfl rfl rfl rfl rfl hl.1 (Nat.le_of_ble_eq_true rfl) dX8_settle_62 ⟨Nat.zero_le _, Nat.zero_le _⟩ (fun H locs hP hD hS => ?_)
      refine lv_istore_n (lv' := [(3, .int r7.1), (2, .int r3.1), (1, .int x2), (0, .ref (ad 100))]) hx hb dX8_settle_65 rfl hl (by decide) rfl (fun ls hl => ?_)
      refine lv_iload_n hx hb dX8_settle_66 rfl (lv_at hl 2 rfl) ?_
      refine lv_bipush (v := 20) hx hb dX8_settle_67 (by decide) ?_
      refine lv_icmp_ge (tgt := 84) hx hb dX8_settle_69 (by decide) (fun c8 => ?_) (fun c8 => ?_)
      · replace hM := if_t c8 hM
        refine lv_aload_n hx hb dX8_settle_84 rfl (lv_at hl 3 rfl) ?_
        refine lv_dup hx hb dX8_settle_85 rfl ?_
        refine va_get (D := D) (ci := 8) (v := .int o_O.1) (C := RX8) (T := TX8) (N := 48) hx hb hts layX8 hown hK hP 0 rfl rfl 27 (by decide) (hts _ (inA q1005)) (fun _ h9 => h9) rfl dX8_settle_86 ?_
        refine lv_iconst (v := 1) hx hb dX8_settle_89 (by decide) ?_
        refine lv_isub hx hb dX8_settle_90 ?_
        refine va_put (D := D) (ci := 8) (v := .int (o_O.1 - 1)) (ty := .int) (C := RX8) (T := TX8) (N := 48) hx hb hts layX8 tyX8 tyX8_ok nmX8 hown hK hP hD hS 0 rfl rfl 27 (by decide) (hts _ (inA q1005)) (fun _ h9 => h9) rfl (by decide +kernel) rfl rfl (Nat.le_of_ble_eq_true rfl) dX8_settle_91 (fun H locs hP hD hS => ?_)
        have hP : va_P D vwCl (wM0 ad o_X o_L o_N r7.2 o_U (o_O.1 - 1, o_O.2) r3.2 o_Q o_V o_I ++ wMT cI ad r7.2 ++ wME cI ad r3.2) H := hP
        have hD : va_D A (wM0 ad o_X o_L o_N r7.2 o_U (o_O.1 - 1, o_O.2) r3.2 o_Q o_V o_I ++ wMT cI ad r7.2 ++ wME cI ad r3.2) := hD
        refine lv_aload_n hx hb dX8_settle_94 rfl (lv_at hl 3 rfl) ?_
        refine lv_iload_n hx hb dX8_settle_95 rfl (lv_at hl 1 rfl) ?_
        refine lv_iload_n hx hb dX8_settle_96 rfl (lv_at hl 0 rfl) ?_
        obtain ⟨r9, hcr9, hM⟩ := ob_use hM
        refine cl_V (As := [.int r3.1, .int r7.1]) (rest := []) (wM0 ad o_X o_L o_N r9 o_U (o_O.1 - 1, o_O.2) r3.2 o_Q o_V o_I ++ wMT cI ad r9 ++ wME cI ad r3.2) [] ⟨hx, hb, hml, hown, hts⟩ (c_Model_hang l D cI sd ad o_C o_X o_L o_N o_U (o_O.1 - 1, o_O.2) r3.2 o_Q o_V o_I r7.2 r3.1 r7.1 r9 hcr9) (cwV2 hts q1249 mvX8_hang rfl rfl ⟨(Nat.le_of_ble_eq_true rfl), (Nat.le_of_ble_eq_true rfl)⟩) hK hE hA hP hD hS 0 (T := TX8) (N := 48) (ci := 8) rfl rfl [0, 1, 2, 3, 4, 5, 6, 7] rfl (by decide) rfl rfl rfl rfl rfl rfl hl.1 (Nat.le_of_ble_eq_true rfl) dX8_settle_97 ⟨Nat.zero_le _, Nat.zero_le _⟩ (fun H locs hP hD hS => ?_)
        refine lv_aload_n hx hb dX8_settle_100 rfl (lv_at hl 3 rfl) ?_
        refine lv_iload_n hx hb dX8_settle_101 rfl (lv_at hl 0 rfl) ?_
        obtain ⟨r10, hcr10, hM⟩ := ob_use hM
        refine cl_V (As := [.int r7.1]) (rest := []) (wM0 ad o_X o_L o_N r9 o_U (o_O.1 - 1, o_O.2) r10 o_Q o_V o_I ++ wMT cI ad r9 ++ wME cI ad r10) [] ⟨hx, hb, hml, hown, hts⟩ (c_Model_putOperand l D cI sd ad o_C o_X o_L o_N r9 o_U (o_O.1 - 1, o_O.2) o_Q o_V o_I r3.2 r7.1 r10 hcr10) (cwV2 hts q1393 mvX8_putOperand rfl rfl ⟨(Nat.le_of_ble_eq_true rfl), (Nat.le_of_ble_eq_true rfl)⟩) hK hE hA hP hD hS 0 (T := TX8) (N := 48) (ci := 8) rfl rfl [0, 8, 9, 10, 11] rfl (by decide) rfl rfl rfl rfl rfl rfl hl.1 (Nat.le_of_ble_eq_true rfl) dX8_settle_102 ⟨Nat.zero_le _, Nat.zero_le _⟩ (fun H locs hP hD hS => ?_)
        cases hM
        exact rt_v hx hb hr hlk hP hD hS rfl dX8_settle_105
      · replace hM := if_f c8 hM
        refine lv_aload_n hx hb dX8_settle_72 rfl (lv_at hl 3 rfl) ?_
        refine lv_aload_n hx hb dX8_settle_73 rfl (lv_at hl 3 rfl) ?_
        obtain ⟨r11, hcr11, hM⟩ := ob_use hM
        refine cl_V (As := []) (rest := [.ref (ad 100)]) (wM0 ad o_X o_L o_N r7.2 o_U o_O r11.2 o_Q o_V o_I ++ wMT cI ad r7.2 ++ wME cI ad r11.2) (.int r11.1 :: [.ref (ad 100)]) ⟨hx, hb, hml, hown, hts⟩ (c_Model_takeOperand l D cI sd ad o_C o_X o_L o_N r7.2 o_U o_O o_Q o_V o_I r3.2 r11 hcr11) (cwV2 hts q1401 mvX8_takeOperand rfl rfl ⟨(Nat.le_of_ble_eq_true rfl), (Nat.le_of_ble_eq_true rfl)⟩) hK hE hA hP hD hS 0 (T := TX8) (N := 48) (ci := 8) rfl rfl [0, 8, 9, 10, 11] rfl (by decide) rfl rfl rfl rfl rfl rfl hl.1 (Nat.le_of_ble_eq_true rfl) dX8_settle_74 ⟨Nat.zero_le _, Nat.zero_le _⟩ (fun H locs hP hD hS => ?_)
        refine lv_iload_n hx hb dX8_settle_77 rfl (lv_at hl 0 rfl) ?_
        obtain ⟨r12, hcr12, hM⟩ := ob_use hM
        refine cl_V (As := [.int r11.1, .int r7.1]) (rest := []) (wM0 ad o_X o_L o_N r12 o_U o_O r11.2 o_Q o_V o_I ++ wMT cI ad r12 ++ wME cI ad r11.2) [] ⟨hx, hb, hml, hown, hts⟩ (c_Model_hang l D cI sd ad o_C o_X o_L o_N o_U o_O r11.2 o_Q o_V o_I r7.2 r11.1 r7.1 r12 hcr12) (cwV2 hts q1249 mvX8_hang rfl rfl ⟨(Nat.le_of_ble_eq_true rfl), (Nat.le_of_ble_eq_true rfl)⟩) hK hE hA hP hD hS 0 (T := TX8) (N := 48) (ci := 8) rfl rfl [0, 1, 2, 3, 4, 5, 6, 7] rfl (by decide) rfl rfl rfl rfl rfl rfl hl.1 (Nat.le_of_ble_eq_true rfl) dX8_settle_78 ⟨Nat.zero_le _, Nat.zero_le _⟩ (fun H locs hP hD hS => ?_)
        refine lv_goto (tgt := 94) hx hb dX8_settle_81 (by decide) ?_
        refine lv_aload_n hx hb dX8_settle_94 rfl (lv_at hl 3 rfl) ?_
        refine lv_iload_n hx hb dX8_settle_95 rfl (lv_at hl 1 rfl) ?_
        refine lv_iload_n hx hb dX8_settle_96 rfl (lv_at hl 0 rfl) ?_
        obtain ⟨r13, hcr13, hM⟩ := ob_use hM
        refine cl_V (As := [.int r3.1, .int r7.1]) (rest := []) (wM0 ad o_X o_L o_N r13 o_U o_O r11.2 o_Q o_V o_I ++ wMT cI ad r13 ++ wME cI ad r11.2) [] ⟨hx, hb, hml, hown, hts⟩ (c_Model_hang l D cI sd ad o_C o_X o_L o_N o_U o_O r11.2 o_Q o_V o_I r12 r3.1 r7.1 r13 hcr13) (cwV2 hts q1249 mvX8_hang rfl rfl ⟨(Nat.le_of_ble_eq_true rfl), (Nat.le_of_ble_eq_true rfl)⟩) hK hE hA hP hD hS 0 (T := TX8) (N := 48) (ci := 8) rfl rfl [0, 1, 2, 3, 4, 5, 6, 7] rfl (by decide) rfl rfl rfl rfl rfl rfl hl.1 (Nat.le_of_ble_eq_true rfl) dX8_settle_97 ⟨Nat.zero_le _, Nat.zero_le _⟩ (fun H locs hP hD hS => ?_)
        refine lv_aload_n hx hb dX8_settle_100 rfl (lv_at hl 3 rfl) ?_
        refine lv_iload_n hx hb dX8_settle_101 rfl (lv_at hl 0 rfl) ?_
        obtain ⟨r14, hcr14, hM⟩ := ob_use hM
        refine cl_V (As := [.int r7.1]) (rest := []) (wM0 ad o_X o_L o_N r13 o_U o_O r14 o_Q o_V o_I ++ wMT cI ad r13 ++ wME cI ad r14) [] ⟨hx, hb, hml, hown, hts⟩ (c_Model_putOperand l D cI sd ad o_C o_X o_L o_N r13 o_U o_O o_Q o_V o_I r11.2 r7.1 r14 hcr14) (cwV2 hts q1393 mvX8_putOperand rfl rfl ⟨(Nat.le_of_ble_eq_true rfl), (Nat.le_of_ble_eq_true rfl)⟩) hK hE hA hP hD hS 0 (T := TX8) (N := 48) (ci := 8) rfl rfl [0, 8, 9, 10, 11] rfl (by decide) rfl rfl rfl rfl rfl rfl hl.1 (Nat.le_of_ble_eq_true rfl) dX8_settle_102 ⟨Nat.zero_le _, Nat.zero_le _⟩ (fun H locs hP hD hS => ?_)
        cases hM
        exact rt_v hx hb hr hlk hP hD hS rfl dX8_settle_105
    · replace hM := if_f c6 hM
      refine lv_iload_n hx hb dX8_settle_54 rfl (lv_at hl 1 rfl) ?_
      refine lv_goto (tgt := 62) hx hb dX8_settle_55 (by decide) ?_
      obtain ⟨r15, hcr15, hM⟩ := ob_use hM
      refine cl_V (As := [.int 36, .int (r3.2.2.2.2.2.2.1 r3.2.2.1.toNatClampNeg), .int x2]) (rest := []) (wM0 ad o_X o_L o_N r15.2 o_U o_O r3.2 o_Q o_V o_I ++ wMT cI ad r15.2 ++ wME cI ad r3.2) (.int r15.1 :: []) ⟨hx, hb, hml, hown, hts⟩ (c_Model_make l D cI sd ad o_C o_X o_L o_N o_U o_O r3.2 o_Q o_V o_I o_T 36 (r3.2.2.2.2.2.2.1 r3.2.2.1.toNatClampNeg) x2 r15 hcr15) (cwV2 hts q1143 mvX8_make rfl rfl ⟨(Nat.le_of_ble_eq_true rfl), (Nat.le_of_ble_eq_true rfl)⟩) hK hE hA hP hD hS 0 (T := TX8) (N := 48) (ci := 8) rfl rfl [0, 1, 2, 3, 4, 5, 6, 7] rfl (by decide) rfl rfl rfl rfl rfl rfl hl.1 (Nat.le_of_ble_eq_true rfl) dX8_settle_62 ⟨Nat.zero_le _, Nat.zero_le _⟩ (fun H locs hP hD hS => ?_)
      refine lv_istore_n (lv' := [(3, .int r15.1), (2, .int r3.1), (1, .int x2), (0, .ref (ad 100))]) hx hb dX8_settle_65 rfl hl (by decide) rfl (fun ls hl => ?_)
      refine lv_iload_n hx hb dX8_settle_66 rfl (lv_at hl 2 rfl) ?_
      refine lv_bipush (v := 20) hx hb dX8_settle_67 (by decide) ?_
      refine lv_icmp_ge (tgt := 84) hx hb dX8_settle_69 (by decide) (fun c16 => ?_) (fun c16 => ?_)
      · replace hM := if_t c16 hM
        refine lv_aload_n hx hb dX8_settle_84 rfl (lv_at hl 3 rfl) ?_
        refine lv_dup hx hb dX8_settle_85 rfl ?_
        refine va_get (D := D) (ci := 8) (v := .int o_O.1) (C := RX8) (T := TX8) (N := 48) hx hb hts layX8 hown hK hP 0 rfl rfl 27 (by decide) (hts _ (inA q1005)) (fun _ h9 => h9) rfl dX8_settle_86 ?_
        refine lv_iconst (v := 1) hx hb dX8_settle_89 (by decide) ?_
        refine lv_isub hx hb dX8_settle_90 ?_
        refine va_put (D := D) (ci := 8) (v := .int (o_O.1 - 1)) (ty := .int) (C := RX8) (T := TX8) (N := 48) hx hb hts layX8 tyX8 tyX8_ok nmX8 hown hK hP hD hS 0 rfl rfl 27 (by decide) (hts _ (inA q1005)) (fun _ h9 => h9) rfl (by decide +kernel) rfl rfl (Nat.le_of_ble_eq_true rfl) dX8_settle_91 (fun H locs hP hD hS => ?_)
        have hP : va_P D vwCl (wM0 ad o_X o_L o_N r15.2 o_U (o_O.1 - 1, o_O.2) r3.2 o_Q o_V o_I ++ wMT cI ad r15.2 ++ wME cI ad r3.2) H := hP
        have hD : va_D A (wM0 ad o_X o_L o_N r15.2 o_U (o_O.1 - 1, o_O.2) r3.2 o_Q o_V o_I ++ wMT cI ad r15.2 ++ wME cI ad r3.2) := hD
        refine lv_aload_n hx hb dX8_settle_94 rfl (lv_at hl 3 rfl) ?_
        refine lv_iload_n hx hb dX8_settle_95 rfl (lv_at hl 1 rfl) ?_
        refine lv_iload_n hx hb dX8_settle_96 rfl (lv_at hl 0 rfl) ?_
        obtain ⟨r17, hcr17, hM⟩ := ob_use hM
        refine cl_V (As := [.int r3.1, .int r15.1]) (rest := []) (wM0 ad o_X o_L o_N r17 o_U (o_O.1 - 1, o_O.2) r3.2 o_Q o_V o_I ++ wMT cI ad r17 ++ wME cI ad r3.2) [] ⟨hx, hb, hml, hown, hts⟩ (c_Model_hang l D cI sd ad o_C o_X o_L o_N o_U (o_O.1 - 1, o_O.2) r3.2 o_Q o_V o_I r15.2 r3.1 r15.1 r17 hcr17) (cwV2 hts q1249 mvX8_hang rfl rfl ⟨(Nat.le_of_ble_eq_true rfl), (Nat.le_of_ble_eq_true rfl)⟩) hK hE hA hP hD hS 0 (T := TX8) (N := 48) (ci := 8) rfl rfl [0, 1, 2, 3, 4, 5, 6, 7] rfl (by decide) rfl rfl rfl rfl rfl rfl hl.1 (Nat.le_of_ble_eq_true rfl) dX8_settle_97 ⟨Nat.zero_le _, Nat.zero_le _⟩ (fun H locs hP hD hS => ?_)
        refine lv_aload_n hx hb dX8_settle_100 rfl (lv_at hl 3 rfl) ?_
        refine lv_iload_n hx hb dX8_settle_101 rfl (lv_at hl 0 rfl) ?_
        obtain ⟨r18, hcr18, hM⟩ := ob_use hM
        refine cl_V (As := [.int r15.1]) (rest := []) (wM0 ad o_X o_L o_N r17 o_U (o_O.1 - 1, o_O.2) r18 o_Q o_V o_I ++ wMT cI ad r17 ++ wME cI ad r18) [] ⟨hx, hb, hml, hown, hts⟩ (c_Model_putOperand l D cI sd ad o_C o_X o_L o_N r17 o_U (o_O.1 - 1, o_O.2) o_Q o_V o_I r3.2 r15.1 r18 hcr18) (cwV2 hts q1393 mvX8_putOperand rfl rfl ⟨(Nat.le_of_ble_eq_true rfl), (Nat.le_of_ble_eq_true rfl)⟩) hK hE hA hP hD hS 0 (T := TX8) (N := 48) (ci := 8) rfl rfl [0, 8, 9, 10, 11] rfl (by decide) rfl rfl rfl rfl rfl rfl hl.1 (Nat.le_of_ble_eq_true rfl) dX8_settle_102 ⟨Nat.zero_le _, Nat.zero_le _⟩ (fun H locs hP hD hS => ?_)
        cases hM
        exact rt_v hx hb hr hlk hP hD hS rfl dX8_settle_105
      · replace hM := if_f c16 hM
        refine lv_aload_n hx hb dX8_settle_72 rfl (lv_at hl 3 rfl) ?_
        refine lv_aload_n hx hb dX8_settle_73 rfl (lv_at hl 3 rfl) ?_
        obtain ⟨r19, hcr19, hM⟩ := ob_use hM
        refine cl_V (As := []) (rest := [.ref (ad 100)]) (wM0 ad o_X o_L o_N r15.2 o_U o_O r19.2 o_Q o_V o_I ++ wMT cI ad r15.2 ++ wME cI ad r19.2) (.int r19.1 :: [.ref (ad 100)]) ⟨hx, hb, hml, hown, hts⟩ (c_Model_takeOperand l D cI sd ad o_C o_X o_L o_N r15.2 o_U o_O o_Q o_V o_I r3.2 r19 hcr19) (cwV2 hts q1401 mvX8_takeOperand rfl rfl ⟨(Nat.le_of_ble_eq_true rfl), (Nat.le_of_ble_eq_true rfl)⟩) hK hE hA hP hD hS 0 (T := TX8) (N := 48) (ci := 8) rfl rfl [0, 8, 9, 10, 11] rfl (by decide) rfl rfl rfl rfl rfl rfl hl.1 (Nat.le_of_ble_eq_true rfl) dX8_settle_74 ⟨Nat.zero_le _, Nat.zero_le _⟩ (fun H locs hP hD hS => ?_)
        refine lv_iload_n hx hb dX8_settle_77 rfl (lv_at hl 0 rfl) ?_
        obtain ⟨r20, hcr20, hM⟩ := ob_use hM
        refine cl_V (As := [.int r19.1, .int r15.1]) (rest := []) (wM0 ad o_X o_L o_N r20 o_U o_O r19.2 o_Q o_V o_I ++ wMT cI ad r20 ++ wME cI ad r19.2) [] ⟨hx, hb, hml, hown, hts⟩ (c_Model_hang l D cI sd ad o_C o_X o_L o_N o_U o_O r19.2 o_Q o_V o_I r15.2 r19.1 r15.1 r20 hcr20) (cwV2 hts q1249 mvX8_hang rfl rfl ⟨(Nat.le_of_ble_eq_true rfl), (Nat.le_of_ble_eq_true rfl)⟩) hK hE hA hP hD hS 0 (T := TX8) (N := 48) (ci := 8) rfl rfl [0, 1, 2, 3, 4, 5, 6, 7] rfl (by decide) rfl rfl rfl rfl rfl rfl hl.1 (Nat.le_of_ble_eq_true rfl) dX8_settle_78 ⟨Nat.zero_le _, Nat.zero_le _⟩ (fun H locs hP hD hS => ?_)
        refine lv_goto (tgt := 94) hx hb dX8_settle_81 (by decide) ?_
        refine lv_aload_n hx hb dX8_settle_94 rfl (lv_at hl 3 rfl) ?_
        refine lv_iload_n hx hb dX8_settle_95 rfl (lv_at hl 1 rfl) ?_
        refine lv_iload_n hx hb dX8_settle_96 rfl (lv_at hl 0 rfl) ?_
        obtain ⟨r21, hcr21, hM⟩ := ob_use hM
        refine cl_V (As := [.int r3.1, .int r15.1]) (rest := []) (wM0 ad o_X o_L o_N r21 o_U o_O r19.2 o_Q o_V o_I ++ wMT cI ad r21 ++ wME cI ad r19.2) [] ⟨hx, hb, hml, hown, hts⟩ (c_Model_hang l D cI sd ad o_C o_X o_L o_N o_U o_O r19.2 o_Q o_V o_I r20 r3.1 r15.1 r21 hcr21) (cwV2 hts q1249 mvX8_hang rfl rfl ⟨(Nat.le_of_ble_eq_true rfl), (Nat.le_of_ble_eq_true rfl)⟩) hK hE hA hP hD hS 0 (T := TX8) (N := 48) (ci := 8) rfl rfl [0, 1, 2, 3, 4, 5, 6, 7] rfl (by decide) rfl rfl rfl rfl rfl rfl hl.1 (Nat.le_of_ble_eq_true rfl) dX8_settle_97 ⟨Nat.zero_le _, Nat.zero_le _⟩ (fun H locs hP hD hS => ?_)
        refine lv_aload_n hx hb dX8_settle_100 rfl (lv_at hl 3 rfl) ?_
        refine lv_iload_n hx hb dX8_settle_101 rfl (lv_at hl 0 rfl) ?_
        obtain ⟨r22, hcr22, hM⟩ := ob_use hM
        refine cl_V (As := [.int r15.1]) (rest := []) (wM0 ad o_X o_L o_N r21 o_U o_O r22 o_Q o_V o_I ++ wMT cI ad r21 ++ wME cI ad r22) [] ⟨hx, hb, hml, hown, hts⟩ (c_Model_putOperand l D cI sd ad o_C o_X o_L o_N r21 o_U o_O o_Q o_V o_I r19.2 r15.1 r22 hcr22) (cwV2 hts q1393 mvX8_putOperand rfl rfl ⟨(Nat.le_of_ble_eq_true rfl), (Nat.le_of_ble_eq_true rfl)⟩) hK hE hA hP hD hS 0 (T := TX8) (N := 48) (ci := 8) rfl rfl [0, 8, 9, 10, 11] rfl (by decide) rfl rfl rfl rfl rfl rfl hl.1 (Nat.le_of_ble_eq_true rfl) dX8_settle_102 ⟨Nat.zero_le _, Nat.zero_le _⟩ (fun H locs hP hD hS => ?_)
        cases hM
        exact rt_v hx hb hr hlk hP hD hS rfl dX8_settle_105
  · replace hM := if_f c4 hM
    refine lv_bipush (v := 35) hx hb dX8_settle_32 (by decide) ?_
    refine lv_goto (tgt := 39) hx hb dX8_settle_34 (by decide) ?_
    refine lv_aload_n hx hb dX8_settle_39 rfl (lv_at hl 2 rfl) ?_
    refine va_get (D := D) (ci := 8) (v := .ref (ad 118)) (C := RX8) (T := TX8) (N := 48) hx hb hts layX8 hown hK hP 0 rfl rfl 37 (by decide) (hts _ (inA q1015)) (fun _ h9 => h9) rfl dX8_settle_40 ?_
    refine lv_aload_n hx hb dX8_settle_43 rfl (lv_at hl 2 rfl) ?_
    refine va_get (D := D) (ci := 8) (v := .int r3.2.2.1) (C := RX8) (T := TX8) (N := 48) hx hb hts layX8 hown hK hP 0 rfl rfl 35 (by decide) (hts _ (inA q1013)) (fun _ h9 => h9) rfl dX8_settle_44 ?_
    obtain ⟨b23, hM⟩ := gd_use hM
    refine va_iald hx hb hK hP 10 0 rfl rfl b23 dX8_settle_47 ?_
    refine lv_iload_n hx hb dX8_settle_48 rfl (lv_at hl 1 rfl) ?_
    refine lv_bipush (v := 20) hx hb dX8_settle_49 (by decide) ?_
    refine lv_icmp_ge (tgt := 58) hx hb dX8_settle_51 (by decide) (fun c24 => ?_) (fun c24 => ?_)
    · replace hM := if_t c24 hM
      refine lv_iload_n hx hb dX8_settle_58 rfl (lv_at hl 1 rfl) ?_
      refine lv_bipush (v := 20) hx hb dX8_settle_59 (by decide) ?_
      refine lv_isub hx hb dX8_settle_61 ?_
      obtain ⟨r25, hcr25, hM⟩ := ob_use hM
      refine cl_V (As := [.int 35, .int (r3.2.2.2.2.2.2.1 r3.2.2.1.toNatClampNeg), .int (x2 - 20)]) (rest := []) (wM0 ad o_X o_L o_N r25.2 o_U o_O r3.2 o_Q o_V o_I ++ wMT cI ad r25.2 ++ wME cI ad r3.2) (.int r25.1 :: []) ⟨hx, hb, hml, hown, hts⟩ (c_Model_make l D cI sd ad o_C o_X o_L o_N o_U o_O r3.2 o_Q o_V o_I o_T 35 (r3.2.2.2.2.2.2.1 r3.2.2.1.toNatClampNeg) (x2 - 20) r25 hcr25) (cwV2 hts q1143 mvX8_make rfl rfl ⟨(Nat.le_of_ble_eq_true rfl), (Nat.le_of_ble_eq_true rfl)⟩) hK hE hA hP hD hS 0 (T := TX8) (N := 48) (ci := 8) rfl rfl [0, 1, 2, 3, 4, 5, 6, 7] rfl (by decide) rfl rfl rfl rfl rfl rfl hl.1 (Nat.le_of_ble_eq_true rfl) dX8_settle_62 ⟨Nat.zero_le _, Nat.zero_le _⟩ (fun H locs hP hD hS => ?_)
      refine lv_istore_n (lv' := [(3, .int r25.1), (2, .int r3.1), (1, .int x2), (0, .ref (ad 100))]) hx hb dX8_settle_65 rfl hl (by decide) rfl (fun ls hl => ?_)
      refine lv_iload_n hx hb dX8_settle_66 rfl (lv_at hl 2 rfl) ?_
      refine lv_bipush (v := 20) hx hb dX8_settle_67 (by decide) ?_
      refine lv_icmp_ge (tgt := 84) hx hb dX8_settle_69 (by decide) (fun c26 => ?_) (fun c26 => ?_)
      · replace hM := if_t c26 hM
        refine lv_aload_n hx hb dX8_settle_84 rfl (lv_at hl 3 rfl) ?_
        refine lv_dup hx hb dX8_settle_85 rfl ?_
        refine va_get (D := D) (ci := 8) (v := .int o_O.1) (C := RX8) (T := TX8) (N := 48) hx hb hts layX8 hown hK hP 0 rfl rfl 27 (by decide) (hts _ (inA q1005)) (fun _ h9 => h9) rfl dX8_settle_86 ?_
        refine lv_iconst (v := 1) hx hb dX8_settle_89 (by decide) ?_
        refine lv_isub hx hb dX8_settle_90 ?_
        refine va_put (D := D) (ci := 8) (v := .int (o_O.1 - 1)) (ty := .int) (C := RX8) (T := TX8) (N := 48) hx hb hts layX8 tyX8 tyX8_ok nmX8 hown hK hP hD hS 0 rfl rfl 27 (by decide) (hts _ (inA q1005)) (fun _ h9 => h9) rfl (by decide +kernel) rfl rfl (Nat.le_of_ble_eq_true rfl) dX8_settle_91 (fun H locs hP hD hS => ?_)
        have hP : va_P D vwCl (wM0 ad o_X o_L o_N r25.2 o_U (o_O.1 - 1, o_O.2) r3.2 o_Q o_V o_I ++ wMT cI ad r25.2 ++ wME cI ad r3.2) H := hP
        have hD : va_D A (wM0 ad o_X o_L o_N r25.2 o_U (o_O.1 - 1, o_O.2) r3.2 o_Q o_V o_I ++ wMT cI ad r25.2 ++ wME cI ad r3.2) := hD
        refine lv_aload_n hx hb dX8_settle_94 rfl (lv_at hl 3 rfl) ?_
        refine lv_iload_n hx hb dX8_settle_95 rfl (lv_at hl 1 rfl) ?_
        refine lv_iload_n hx hb dX8_settle_96 rfl (lv_at hl 0 rfl) ?_
        obtain ⟨r27, hcr27, hM⟩ := ob_use hM
        refine cl_V (As := [.int r3.1, .int r25.1]) (rest := []) (wM0 ad o_X o_L o_N r27 o_U (o_O.1 - 1, o_O.2) r3.2 o_Q o_V o_I ++ wMT cI ad r27 ++ wME cI ad r3.2) [] ⟨hx, hb, hml, hown, hts⟩ (c_Model_hang l D cI sd ad o_C o_X o_L o_N o_U (o_O.1 - 1, o_O.2) r3.2 o_Q o_V o_I r25.2 r3.1 r25.1 r27 hcr27) (cwV2 hts q1249 mvX8_hang rfl rfl ⟨(Nat.le_of_ble_eq_true rfl), (Nat.le_of_ble_eq_true rfl)⟩) hK hE hA hP hD hS 0 (T := TX8) (N := 48) (ci := 8) rfl rfl [0, 1, 2, 3, 4, 5, 6, 7] rfl (by decide) rfl rfl rfl rfl rfl rfl hl.1 (Nat.le_of_ble_eq_true rfl) dX8_settle_97 ⟨Nat.zero_le _, Nat.zero_le _⟩ (fun H locs hP hD hS => ?_)
        refine lv_aload_n hx hb dX8_settle_100 rfl (lv_at hl 3 rfl) ?_
        refine lv_iload_n hx hb dX8_settle_101 rfl (lv_at hl 0 rfl) ?_
        obtain ⟨r28, hcr28, hM⟩ := ob_use hM
        refine cl_V (As := [.int r25.1]) (rest := []) (wM0 ad o_X o_L o_N r27 o_U (o_O.1 - 1, o_O.2) r28 o_Q o_V o_I ++ wMT cI ad r27 ++ wME cI ad r28) [] ⟨hx, hb, hml, hown, hts⟩ (c_Model_putOperand l D cI sd ad o_C o_X o_L o_N r27 o_U (o_O.1 - 1, o_O.2) o_Q o_V o_I r3.2 r25.1 r28 hcr28) (cwV2 hts q1393 mvX8_putOperand rfl rfl ⟨(Nat.le_of_ble_eq_true rfl), (Nat.le_of_ble_eq_true rfl)⟩) hK hE hA hP hD hS 0 (T := TX8) (N := 48) (ci := 8) rfl rfl [0, 8, 9, 10, 11] rfl (by decide) rfl rfl rfl rfl rfl rfl hl.1 (Nat.le_of_ble_eq_true rfl) dX8_settle_102 ⟨Nat.zero_le _, Nat.zero_le _⟩ (fun H locs hP hD hS => ?_)
        cases hM
        exact rt_v hx hb hr hlk hP hD hS rfl dX8_settle_105
      · replace hM := if_f c26 hM
        refine lv_aload_n hx hb dX8_settle_72 rfl (lv_at hl 3 rfl) ?_
        refine lv_aload_n hx hb dX8_settle_73 rfl (lv_at hl 3 rfl) ?_
        obtain ⟨r29, hcr29, hM⟩ := ob_use hM
        refine cl_V (As := []) (rest := [.ref (ad 100)]) (wM0 ad o_X o_L o_N r25.2 o_U o_O r29.2 o_Q o_V o_I ++ wMT cI ad r25.2 ++ wME cI ad r29.2) (.int r29.1 :: [.ref (ad 100)]) ⟨hx, hb, hml, hown, hts⟩ (c_Model_takeOperand l D cI sd ad o_C o_X o_L o_N r25.2 o_U o_O o_Q o_V o_I r3.2 r29 hcr29) (cwV2 hts q1401 mvX8_takeOperand rfl rfl ⟨(Nat.le_of_ble_eq_true rfl), (Nat.le_of_ble_eq_true rfl)⟩) hK hE hA hP hD hS 0 (T := TX8) (N := 48) (ci := 8) rfl rfl [0, 8, 9, 10, 11] rfl (by decide) rfl rfl rfl rfl rfl rfl hl.1 (Nat.le_of_ble_eq_true rfl) dX8_settle_74 ⟨Nat.zero_le _, Nat.zero_le _⟩ (fun H locs hP hD hS => ?_)
        refine lv_iload_n hx hb dX8_settle_77 rfl (lv_at hl 0 rfl) ?_
        obtain ⟨r30, hcr30, hM⟩ := ob_use hM
        refine cl_V (As := [.int r29.1, .int r25.1]) (rest := []) (wM0 ad o_X o_L o_N r30 o_U o_O r29.2 o_Q o_V o_I ++ wMT cI ad r30 ++ wME cI ad r29.2) [] ⟨hx, hb, hml, hown, hts⟩ (c_Model_hang l D cI sd ad o_C o_X o_L o_N o_U o_O r29.2 o_Q o_V o_I r25.2 r29.1 r25.1 r30 hcr30) (cwV2 hts q1249 mvX8_hang rfl rfl ⟨(Nat.le_of_ble_eq_true rfl), (Nat.le_of_ble_eq_true rfl)⟩) hK hE hA hP hD hS 0 (T := TX8) (N := 48) (ci := 8) rfl rfl [0, 1, 2, 3, 4, 5, 6, 7] rfl (by decide) rfl rfl rfl rfl rfl rfl hl.1 (Nat.le_of_ble_eq_true rfl) dX8_settle_78 ⟨Nat.zero_le _, Nat.zero_le _⟩ (fun H locs hP hD hS => ?_)
        refine lv_goto (tgt := 94) hx hb dX8_settle_81 (by decide) ?_
        refine lv_aload_n hx hb dX8_settle_94 rfl (lv_at hl 3 rfl) ?_
        refine lv_iload_n hx hb dX8_settle_95 rfl (lv_at hl 1 rfl) ?_
        refine lv_iload_n hx hb dX8_settle_96 rfl (lv_at hl 0 rfl) ?_
        obtain ⟨r31, hcr31, hM⟩ := ob_use hM
        refine cl_V (As := [.int r3.1, .int r25.1]) (rest := []) (wM0 ad o_X o_L o_N r31 o_U o_O r29.2 o_Q o_V o_I ++ wMT cI ad r31 ++ wME cI ad r29.2) [] ⟨hx, hb, hml, hown, hts⟩ (c_Model_hang l D cI sd ad o_C o_X o_L o_N o_U o_O r29.2 o_Q o_V o_I r30 r3.1 r25.1 r31 hcr31) (cwV2 hts q1249 mvX8_hang rfl rfl ⟨(Nat.le_of_ble_eq_true rfl), (Nat.le_of_ble_eq_true rfl)⟩) hK hE hA hP hD hS 0 (T := TX8) (N := 48) (ci := 8) rfl rfl [0, 1, 2, 3, 4, 5, 6, 7] rfl (by decide) rfl rfl rfl rfl rfl rfl hl.1 (Nat.le_of_ble_eq_true rfl) dX8_settle_97 ⟨Nat.zero_le _, Nat.zero_le _⟩ (fun H locs hP hD hS => ?_)
        refine lv_aload_n hx hb dX8_settle_100 rfl (lv_at hl 3 rfl) ?_
        refine lv_iload_n hx hb dX8_settle_101 rfl (lv_at hl 0 rfl) ?_
        obtain ⟨r32, hcr32, hM⟩ := ob_use hM
        refine cl_V (As := [.int r25.1]) (rest := []) (wM0 ad o_X o_L o_N r31 o_U o_O r32 o_Q o_V o_I ++ wMT cI ad r31 ++ wME cI ad r32) [] ⟨hx, hb, hml, hown, hts⟩ (c_Model_putOperand l D cI sd ad o_C o_X o_L o_N r31 o_U o_O o_Q o_V o_I r29.2 r25.1 r32 hcr32) (cwV2 hts q1393 mvX8_putOperand rfl rfl ⟨(Nat.le_of_ble_eq_true rfl), (Nat.le_of_ble_eq_true rfl)⟩) hK hE hA hP hD hS 0 (T := TX8) (N := 48) (ci := 8) rfl rfl [0, 8, 9, 10, 11] rfl (by decide) rfl rfl rfl rfl rfl rfl hl.1 (Nat.le_of_ble_eq_true rfl) dX8_settle_102 ⟨Nat.zero_le _, Nat.zero_le _⟩ (fun H locs hP hD hS => ?_)
        cases hM
        exact rt_v hx hb hr hlk hP hD hS rfl dX8_settle_105
    · replace hM := if_f c24 hM
      refine lv_iload_n hx hb dX8_settle_54 rfl (lv_at hl 1 rfl) ?_
      refine lv_goto (tgt := 62) hx hb dX8_settle_55 (by decide) ?_
      obtain ⟨r33, hcr33, hM⟩ := ob_use hM
      refine cl_V (As := [.int 35, .int (r3.2.2.2.2.2.2.1 r3.2.2.1.toNatClampNeg), .int x2]) (rest := []) (wM0 ad o_X o_L o_N r33.2 o_U o_O r3.2 o_Q o_V o_I ++ wMT cI ad r33.2 ++ wME cI ad r3.2) (.int r33.1 :: []) ⟨hx, hb, hml, hown, hts⟩ (c_Model_make l D cI sd ad o_C o_X o_L o_N o_U o_O r3.2 o_Q o_V o_I o_T 35 (r3.2.2.2.2.2.2.1 r3.2.2.1.toNatClampNeg) x2 r33 hcr33) (cwV2 hts q1143 mvX8_make rfl rfl ⟨(Nat.le_of_ble_eq_true rfl), (Nat.le_of_ble_eq_true rfl)⟩) hK hE hA hP hD hS 0 (T := TX8) (N := 48) (ci := 8) rfl rfl [0, 1, 2, 3, 4, 5, 6, 7] rfl (by decide) rfl rfl rfl rfl rfl rfl hl.1 (Nat.le_of_ble_eq_true rfl) dX8_settle_62 ⟨Nat.zero_le _, Nat.zero_le _⟩ (fun H locs hP hD hS => ?_)
      refine lv_istore_n (lv' := [(3, .int r33.1), (2, .int r3.1), (1, .int x2), (0, .ref (ad 100))]) hx hb dX8_settle_65 rfl hl (by decide) rfl (fun ls hl => ?_)
      refine lv_iload_n hx hb dX8_settle_66 rfl (lv_at hl 2 rfl) ?_
      refine lv_bipush (v := 20) hx hb dX8_settle_67 (by decide) ?_
      refine lv_icmp_ge (tgt := 84) hx hb dX8_settle_69 (by decide) (fun c34 => ?_) (fun c34 => ?_)
      · replace hM := if_t c34 hM
        refine lv_aload_n hx hb dX8_settle_84 rfl (lv_at hl 3 rfl) ?_
        refine lv_dup hx hb dX8_settle_85 rfl ?_
        refine va_get (D := D) (ci := 8) (v := .int o_O.1) (C := RX8) (T := TX8) (N := 48) hx hb hts layX8 hown hK hP 0 rfl rfl 27 (by decide) (hts _ (inA q1005)) (fun _ h9 => h9) rfl dX8_settle_86 ?_
        refine lv_iconst (v := 1) hx hb dX8_settle_89 (by decide) ?_
        refine lv_isub hx hb dX8_settle_90 ?_
        refine va_put (D := D) (ci := 8) (v := .int (o_O.1 - 1)) (ty := .int) (C := RX8) (T := TX8) (N := 48) hx hb hts layX8 tyX8 tyX8_ok nmX8 hown hK hP hD hS 0 rfl rfl 27 (by decide) (hts _ (inA q1005)) (fun _ h9 => h9) rfl (by decide +kernel) rfl rfl (Nat.le_of_ble_eq_true rfl) dX8_settle_91 (fun H locs hP hD hS => ?_)
        have hP : va_P D vwCl (wM0 ad o_X o_L o_N r33.2 o_U (o_O.1 - 1, o_O.2) r3.2 o_Q o_V o_I ++ wMT cI ad r33.2 ++ wME cI ad r3.2) H := hP
        have hD : va_D A (wM0 ad o_X o_L o_N r33.2 o_U (o_O.1 - 1, o_O.2) r3.2 o_Q o_V o_I ++ wMT cI ad r33.2 ++ wME cI ad r3.2) := hD
        refine lv_aload_n hx hb dX8_settle_94 rfl (lv_at hl 3 rfl) ?_
        refine lv_iload_n hx hb dX8_settle_95 rfl (lv_at hl 1 rfl) ?_
        refine lv_iload_n hx hb dX8_settle_96 rfl (lv_at hl 0 rfl) ?_
        obtain ⟨r35, hcr35, hM⟩ := ob_use hM
        refine cl_V (As := [.int r3.1, .int r33.1]) (rest := []) (wM0 ad o_X o_L o_N r35 o_U (o_O.1 - 1, o_O.2) r3.2 o_Q o_V o_I ++ wMT cI ad r35 ++ wME cI ad r3.2) [] ⟨hx, hb, hml, hown, hts⟩ (c_Model_hang l D cI sd ad o_C o_X o_L o_N o_U (o_O.1 - 1, o_O.2) r3.2 o_Q o_V o_I r33.2 r3.1 r33.1 r35 hcr35) (cwV2 hts q1249 mvX8_hang rfl rfl ⟨(Nat.le_of_ble_eq_true rfl), (Nat.le_of_ble_eq_true rfl)⟩) hK hE hA hP hD hS 0 (T := TX8) (N := 48) (ci := 8) rfl rfl [0, 1, 2, 3, 4, 5, 6, 7] rfl (by decide) rfl rfl rfl rfl rfl rfl hl.1 (Nat.le_of_ble_eq_true rfl) dX8_settle_97 ⟨Nat.zero_le _, Nat.zero_le _⟩ (fun H locs hP hD hS => ?_)
        refine lv_aload_n hx hb dX8_settle_100 rfl (lv_at hl 3 rfl) ?_
        refine lv_iload_n hx hb dX8_settle_101 rfl (lv_at hl 0 rfl) ?_
        obtain ⟨r36, hcr36, hM⟩ := ob_use hM
        refine cl_V (As := [.int r33.1]) (rest := []) (wM0 ad o_X o_L o_N r35 o_U (o_O.1 - 1, o_O.2) r36 o_Q o_V o_I ++ wMT cI ad r35 ++ wME cI ad r36) [] ⟨hx, hb, hml, hown, hts⟩ (c_Model_putOperand l D cI sd ad o_C o_X o_L o_N r35 o_U (o_O.1 - 1, o_O.2) o_Q o_V o_I r3.2 r33.1 r36 hcr36) (cwV2 hts q1393 mvX8_putOperand rfl rfl ⟨(Nat.le_of_ble_eq_true rfl), (Nat.le_of_ble_eq_true rfl)⟩) hK hE hA hP hD hS 0 (T := TX8) (N := 48) (ci := 8) rfl rfl [0, 8, 9, 10, 11] rfl (by decide) rfl rfl rfl rfl rfl rfl hl.1 (Nat.le_of_ble_eq_true rfl) dX8_settle_102 ⟨Nat.zero_le _, Nat.zero_le _⟩ (fun H locs hP hD hS => ?_)
        cases hM
        exact rt_v hx hb hr hlk hP hD hS rfl dX8_settle_105
      · replace hM := if_f c34 hM
        refine lv_aload_n hx hb dX8_settle_72 rfl (lv_at hl 3 rfl) ?_
        refine lv_aload_n hx hb dX8_settle_73 rfl (lv_at hl 3 rfl) ?_
        obtain ⟨r37, hcr37, hM⟩ := ob_use hM
        refine cl_V (As := []) (rest := [.ref (ad 100)]) (wM0 ad o_X o_L o_N r33.2 o_U o_O r37.2 o_Q o_V o_I ++ wMT cI ad r33.2 ++ wME cI ad r37.2) (.int r37.1 :: [.ref (ad 100)]) ⟨hx, hb, hml, hown, hts⟩ (c_Model_takeOperand l D cI sd ad o_C o_X o_L o_N r33.2 o_U o_O o_Q o_V o_I r3.2 r37 hcr37) (cwV2 hts q1401 mvX8_takeOperand rfl rfl ⟨(Nat.le_of_ble_eq_true rfl), (Nat.le_of_ble_eq_true rfl)⟩) hK hE hA hP hD hS 0 (T := TX8) (N := 48) (ci := 8) rfl rfl [0, 8, 9, 10, 11] rfl (by decide) rfl rfl rfl rfl rfl rfl hl.1 (Nat.le_of_ble_eq_true rfl) dX8_settle_74 ⟨Nat.zero_le _, Nat.zero_le _⟩ (fun H locs hP hD hS => ?_)
        refine lv_iload_n hx hb dX8_settle_77 rfl (lv_at hl 0 rfl) ?_
        obtain ⟨r38, hcr38, hM⟩ := ob_use hM
        refine cl_V (As := [.int r37.1, .int r33.1]) (rest := []) (wM0 ad o_X o_L o_N r38 o_U o_O r37.2 o_Q o_V o_I ++ wMT cI ad r38 ++ wME cI ad r37.2) [] ⟨hx, hb, hml, hown, hts⟩ (c_Model_hang l D cI sd ad o_C o_X o_L o_N o_U o_O r37.2 o_Q o_V o_I r33.2 r37.1 r33.1 r38 hcr38) (cwV2 hts q1249 mvX8_hang rfl rfl ⟨(Nat.le_of_ble_eq_true rfl), (Nat.le_of_ble_eq_true rfl)⟩) hK hE hA hP hD hS 0 (T := TX8) (N := 48) (ci := 8) rfl rfl [0, 1, 2, 3, 4, 5, 6, 7] rfl (by decide) rfl rfl rfl rfl rfl rfl hl.1 (Nat.le_of_ble_eq_true rfl) dX8_settle_78 ⟨Nat.zero_le _, Nat.zero_le _⟩ (fun H locs hP hD hS => ?_)
        refine lv_goto (tgt := 94) hx hb dX8_settle_81 (by decide) ?_
        refine lv_aload_n hx hb dX8_settle_94 rfl (lv_at hl 3 rfl) ?_
        refine lv_iload_n hx hb dX8_settle_95 rfl (lv_at hl 1 rfl) ?_
        refine lv_iload_n hx hb dX8_settle_96 rfl (lv_at hl 0 rfl) ?_
        obtain ⟨r39, hcr39, hM⟩ := ob_use hM
        refine cl_V (As := [.int r3.1, .int r33.1]) (rest := []) (wM0 ad o_X o_L o_N r39 o_U o_O r37.2 o_Q o_V o_I ++ wMT cI ad r39 ++ wME cI ad r37.2) [] ⟨hx, hb, hml, hown, hts⟩ (c_Model_hang l D cI sd ad o_C o_X o_L o_N o_U o_O r37.2 o_Q o_V o_I r38 r3.1 r33.1 r39 hcr39) (cwV2 hts q1249 mvX8_hang rfl rfl ⟨(Nat.le_of_ble_eq_true rfl), (Nat.le_of_ble_eq_true rfl)⟩) hK hE hA hP hD hS 0 (T := TX8) (N := 48) (ci := 8) rfl rfl [0, 1, 2, 3, 4, 5, 6, 7] rfl (by decide) rfl rfl rfl rfl rfl rfl hl.1 (Nat.le_of_ble_eq_true rfl) dX8_settle_97 ⟨Nat.zero_le _, Nat.zero_le _⟩ (fun H locs hP hD hS => ?_)
        refine lv_aload_n hx hb dX8_settle_100 rfl (lv_at hl 3 rfl) ?_
        refine lv_iload_n hx hb dX8_settle_101 rfl (lv_at hl 0 rfl) ?_
        obtain ⟨r40, hcr40, hM⟩ := ob_use hM
        refine cl_V (As := [.int r33.1]) (rest := []) (wM0 ad o_X o_L o_N r39 o_U o_O r40 o_Q o_V o_I ++ wMT cI ad r39 ++ wME cI ad r40) [] ⟨hx, hb, hml, hown, hts⟩ (c_Model_putOperand l D cI sd ad o_C o_X o_L o_N r39 o_U o_O o_Q o_V o_I r37.2 r33.1 r40 hcr40) (cwV2 hts q1393 mvX8_putOperand rfl rfl ⟨(Nat.le_of_ble_eq_true rfl), (Nat.le_of_ble_eq_true rfl)⟩) hK hE hA hP hD hS 0 (T := TX8) (N := 48) (ci := 8) rfl rfl [0, 8, 9, 10, 11] rfl (by decide) rfl rfl rfl rfl rfl rfl hl.1 (Nat.le_of_ble_eq_true rfl) dX8_settle_102 ⟨Nat.zero_le _, Nat.zero_le _⟩ (fun H locs hP hD hS => ?_)
        cases hM
        exact rt_v hx hb hr hlk hP hD hS rfl dX8_settle_105

set_option maxHeartbeats 4000000 in
set_option maxRecDepth 100000 in
theorem c_Model_operandCame (l : Launch) (D : va_G) (cI : ClassId) (sd : Nat → Nat) (ad : Nat → Nat) (o_C : S_MC) (o_X : S_MX) (o_L : S_ML) (o_N : S_MN) (o_U : S_MU) (o_Q : S_MQ) (o_V : S_MV) (o_I : S_MI) (o_T : S_MT) (o_O : S_MO) (o_E : S_ME) (a1 : Int32) (res : S_MT × S_MO × S_ME) (hM : f_Model_operandCame o_T o_O o_E a1 = some res) : Ctr l D cI sd yX8_operandCame (wsM yX8_operandCame cX8_operandCame 2 (Option.none : Option Jvm.ClassFile.FieldType)) { frames := 2, cells := 0, slots := 0, locals := 46 } [.ref (ad 100), .int a1] (wM0 ad o_X o_L o_N o_T o_U o_O o_E o_Q o_V o_I ++ wMT cI ad o_T ++ wME cI ad o_E) (wM0 ad o_X o_L o_N res.1 o_U res.2.1 res.2.2 o_Q o_V o_I ++ wMT cI ad res.1 ++ wME cI ad res.2.2) none := by
  refine Ctr.of (cc := cX8_operandCame) (maxL := 2) (own := RX8) (by decide +kernel) rfl rfl (Nat.le_of_ble_eq_true rfl) ?_
  intro p e s m below meth c A ls hx hb hr hml hown hts hlk hK hE hA hP hD hS hl
  have hl : lv_has ls 2 [(0, .ref (ad 100)), (1, .int a1)] := hl
  unfold f_Model_operandCame at hM
  refine lv_aload_n hx hb dX8_operandCame_0 rfl (lv_at hl 0 rfl) ?_
  refine lv_iload_n hx hb dX8_operandCame_1 rfl (lv_at hl 1 rfl) ?_
  obtain ⟨r1, hcr1, hM⟩ := ob_use hM
  refine cl_V (As := [.int a1]) (rest := []) (wM0 ad o_X o_L o_N o_T o_U o_O r1 o_Q o_V o_I ++ wMT cI ad o_T ++ wME cI ad r1) [] ⟨hx, hb, hml, hown, hts⟩ (c_Model_putOperand l D cI sd ad o_C o_X o_L o_N o_T o_U o_O o_Q o_V o_I o_E a1 r1 hcr1) (cwV2 hts q1393 mvX8_putOperand rfl rfl ⟨(Nat.le_of_ble_eq_true rfl), (Nat.le_of_ble_eq_true rfl)⟩) hK hE hA hP hD hS 0 (T := TX8) (N := 48) (ci := 8) rfl rfl [0, 8, 9, 10, 11] rfl (by decide) rfl rfl rfl rfl rfl rfl hl.1 (Nat.le_of_ble_eq_true rfl) dX8_operandCame_2 ⟨Nat.zero_le _, Nat.zero_le _⟩ (fun H locs hP hD hS => ?_)
  have lp_L5 : ∀ (n : Nat) (o_T_L5 : S_MT) (o_O_L5 : S_MO) (o_E_L5 : S_ME) (out_L5 : S_MT × S_MO × S_ME) (H : Heap) (locs : List Loc) (ls : Array Slot), f_Model_operandCame_L5 n o_T_L5 o_O_L5 o_E_L5 = some out_L5 → va_P D vwCl (wM0 ad o_X o_L o_N o_T_L5 o_U o_O_L5 o_E_L5 o_Q o_V o_I ++ wMT cI ad o_T_L5 ++ wME cI ad o_E_L5) H → va_D A (wM0 ad o_X o_L o_N o_T_L5 o_U o_O_L5 o_E_L5 o_Q o_V o_I ++ wMT cI ad o_T_L5 ++ wME cI ad o_E_L5) → va_S A s.heap H locs → lv_has ls 2 [(0, .ref (ad 100))] → (∀ (H : Heap) (locs : List Loc) (ls : Array Slot), va_P D vwCl (wM0 ad o_X o_L o_N out_L5.1 o_U out_L5.2.1 out_L5.2.2 o_Q o_V o_I ++ wMT cI ad out_L5.1 ++ wME cI ad out_L5.2.2) H → va_D A (wM0 ad o_X o_L o_N out_L5.1 o_U out_L5.2.1 out_L5.2.2 o_Q o_V o_I ++ wMT cI ad out_L5.1 ++ wME cI ad out_L5.2.2) → va_S A s.heap H locs → lv_has ls 2 [(0, .ref (ad 100))] → W p l e { frames := 2, cells := 0, slots := 0, locals := 46 } s m [.ref (ad 100), .int a1].toArray below meth c H locs 0 0 (MQ below (CQ D A (wM0 ad o_X o_L o_N res.1 o_U res.2.1 res.2.2 o_Q o_V o_I ++ wMT cI ad res.1 ++ wME cI ad res.2.2) none) [.ref (ad 100), .int a1].toArray s 0 0 A) (F0 m 28 ls [])) → W p l e { frames := 2, cells := 0, slots := 0, locals := 46 } s m [.ref (ad 100), .int a1].toArray below meth c H locs 0 0 (MQ below (CQ D A (wM0 ad o_X o_L o_N res.1 o_U res.2.1 res.2.2 o_Q o_V o_I ++ wMT cI ad res.1 ++ wME cI ad res.2.2) none) [.ref (ad 100), .int a1].toArray s 0 0 A) (F0 m 5 ls []) := by
    intro  n
    induction n with
    | zero => intro o_T_L5 o_O_L5 o_E_L5 out_L5 H locs ls hM; exact absurd (show none = some _ from hM) (by simp)
    | succ n ih_L5 =>
      intro o_T_L5 o_O_L5 o_E_L5 out_L5 H locs ls hM hP hD hS hl kx_L5
      rw [f_Model_operandCame_L5] at hM
      refine lv_aload_n hx hb dX8_operandCame_5 rfl (lv_at hl 0 rfl) ?_
      refine va_get (D := D) (ci := 8) (v := .ref (ad 117)) (C := RX8) (T := TX8) (N := 48) hx hb hts layX8 hown hK hP 0 rfl rfl 36 (by decide) (hts _ (inA q1014)) (fun _ h9 => h9) rfl dX8_operandCame_6 ?_
      refine lv_aload_n hx hb dX8_operandCame_9 rfl (lv_at hl 0 rfl) ?_
      refine va_get (D := D) (ci := 8) (v := .int o_E_L5.2.1) (C := RX8) (T := TX8) (N := 48) hx hb hts layX8 hown hK hP 0 rfl rfl 35 (by decide) (hts _ (inA q1013)) (fun _ h9 => h9) rfl dX8_operandCame_10 ?_
      refine lv_iconst (v := 1) hx hb dX8_operandCame_13 (by decide) ?_
      refine lv_isub hx hb dX8_operandCame_14 ?_
      obtain ⟨b1151, hM⟩ := gd_use hM
      refine va_iald hx hb hK hP 9 0 rfl rfl b1151 dX8_operandCame_15 ?_
      refine lv_bipush (v := 20) hx hb dX8_operandCame_16 (by decide) ?_
      refine lv_icmp_lt (tgt := 28) hx hb dX8_operandCame_18 (by decide) (fun c1152 => ?_) (fun c1152 => ?_)
      · replace hM := if_t c1152 hM
        cases hM
        exact kx_L5 _ _ _ hP hD hS (lv_sub hl [0] rfl)
      · replace hM := if_f c1152 hM
        refine lv_aload_n hx hb dX8_operandCame_21 rfl (lv_at hl 0 rfl) ?_
        obtain ⟨r1153, hcr1153, hM⟩ := ob_use hM
        refine cl_V (As := []) (rest := []) (wM0 ad o_X o_L o_N r1153.1 o_U r1153.2.1 r1153.2.2 o_Q o_V o_I ++ wMT cI ad r1153.1 ++ wME cI ad r1153.2.2) [] ⟨hx, hb, hml, hown, hts⟩ (c_Model_settle l D cI sd ad o_C o_X o_L o_N o_U o_Q o_V o_I o_T_L5 o_O_L5 o_E_L5 r1153 hcr1153) (cwV2 hts q1397 mvX8_settle rfl rfl ⟨(Nat.le_of_ble_eq_true rfl), (Nat.le_of_ble_eq_true rfl)⟩) hK hE hA hP hD hS 0 (T := TX8) (N := 48) (ci := 8) rfl rfl [0, 1, 2, 3, 4, 5, 6, 7, 8, 9, 10, 11] rfl (by decide) rfl rfl rfl rfl rfl rfl hl.1 (Nat.le_of_ble_eq_true rfl) dX8_operandCame_22 ⟨Nat.zero_le _, Nat.zero_le _⟩ (fun H locs hP hD hS => ?_)
        refine lv_goto (tgt := 5) hx hb dX8_operandCame_25 (by decide) ?_
        exact ih_L5 r1153.1 r1153.2.1 r1153.2.2 out_L5 _ _ _ hM hP hD hS (lv_sub hl [0] rfl) kx_L5
  obtain ⟨r2, hcr2, hM⟩ := ob_use hM
  refine lp_L5 FU o_T o_O r1 r2 _ _ _ hcr2 hP hD hS (lv_sub hl [0] rfl) (fun H locs ls hP hD hS hl => ?_)
  cases hM
  exact rt_v hx hb hr hlk hP hD hS rfl dX8_operandCame_28

set_option maxHeartbeats 4000000 in
set_option maxRecDepth 100000 in
theorem c_Model_anOperand (l : Launch) (D : va_G) (cI : ClassId) (sd : Nat → Nat) (ad : Nat → Nat) (o_Q : S_MQ) (o_V : S_MV) (o_I : S_MI) (o_C : S_MC) (o_X : S_MX) (o_L : S_ML) (o_N : S_MN) (o_T : S_MT) (o_U : S_MU) (o_O : S_MO) (o_E : S_ME) (res : S_ML × S_MN × S_MT × S_MU × S_MO × S_ME) (hM : f_Model_anOperand o_C o_X o_L o_N o_T o_U o_O o_E = some res) : Ctr l D cI sd yX8_anOperand (wsM yX8_anOperand cX8_anOperand 1 (Option.none : Option Jvm.ClassFile.FieldType)) { frames := 5, cells := 0, slots := 0, locals := 112 } [.ref (ad 100)] (wM0 ad o_X o_L o_N o_T o_U o_O o_E o_Q o_V o_I ++ wMC cI ad o_C ++ wMX cI ad o_X ++ wMN cI ad o_N ++ wMT cI ad o_T ++ wMU cI ad o_U ++ wME cI ad o_E) (wM0 ad o_X res.1 res.2.1 res.2.2.1 res.2.2.2.1 res.2.2.2.2.1 res.2.2.2.2.2 o_Q o_V o_I ++ wMC cI ad o_C ++ wMX cI ad o_X ++ wMN cI ad res.2.1 ++ wMT cI ad res.2.2.1 ++ wMU cI ad res.2.2.2.1 ++ wME cI ad res.2.2.2.2.2) none := by
  refine Ctr.of (cc := cX8_anOperand) (maxL := 1) (own := RX8) (by decide +kernel) rfl rfl (Nat.le_of_ble_eq_true rfl) ?_
  intro p e s m below meth c A ls hx hb hr hml hown hts hlk hK hE hA hP hD hS hl
  have hl : lv_has ls 1 [(0, .ref (ad 100))] := hl
  unfold f_Model_anOperand at hM
  refine lv_aload_n hx hb dX8_anOperand_0 rfl (lv_at hl 0 rfl) ?_
  refine va_get (D := D) (ci := 8) (v := .int o_L.2.1) (C := RX8) (T := TX8) (N := 48) hx hb hts layX8 hown hK hP 0 rfl rfl 7 (by decide) (hts _ (inA q985)) (fun _ h9 => h9) rfl dX8_anOperand_1 ?_
  refine lv_bipush (v := 64) hx hb dX8_anOperand_4 (by decide) ?_
  refine lv_icmp_eq (tgt := 18) hx hb dX8_anOperand_6 (by decide) (fun c1 => ?_) (fun c1 => ?_)
  · replace hM := if_t c1 hM
    refine lv_aload_n hx hb dX8_anOperand_18 rfl (lv_at hl 0 rfl) ?_
    obtain ⟨r2, hcr2, hM⟩ := ob_use hM
    refine cl_V (As := []) (rest := []) (wM0 ad o_X r2.2.1 o_N o_T o_U r2.2.2 o_E o_Q o_V o_I ++ wMC cI ad o_C ++ wMX cI ad o_X ++ wMN cI ad o_N ++ wMT cI ad o_T ++ wMU cI ad o_U ++ wME cI ad o_E) (.int r2.1 :: []) ⟨hx, hb, hml, hown, hts⟩ (c_Model_opens l D cI sd ad o_C o_X o_N o_T o_U o_E o_Q o_V o_I o_L o_O r2 hcr2) (cwV2 hts q1321 mvX8_opens rfl rfl ⟨(Nat.le_of_ble_eq_true rfl), (Nat.le_of_ble_eq_true rfl)⟩) hK hE hA hP hD hS 0 (T := TX8) (N := 48) (ci := 8) rfl rfl [0] rfl (by decide) rfl rfl rfl rfl rfl rfl hl.1 (Nat.le_of_ble_eq_true rfl) dX8_anOperand_19 ⟨Nat.zero_le _, Nat.zero_le _⟩ (fun H locs hP hD hS => ?_)
    refine lv_if_eq (tgt := 214) hx hb dX8_anOperand_22 (by decide) (fun c3 => ?_) (fun c3 => ?_)
    · replace hM := if_t c3 hM
      cases hM
      exact rt_v hx hb hr hlk hP hD hS rfl dX8_anOperand_214
    · replace hM := if_f c3 hM
      refine lv_aload_n hx hb dX8_anOperand_25 rfl (lv_at hl 0 rfl) ?_
      refine lv_aload_n hx hb dX8_anOperand_26 rfl (lv_at hl 0 rfl) ?_
      refine va_get (D := D) (ci := 8) (v := .int r2.2.1.2.1) (C := RX8) (T := TX8) (N := 48) hx hb hts layX8 hown hK hP 0 rfl rfl 7 (by decide) (hts _ (inA q985)) (fun _ h9 => h9) rfl dX8_anOperand_27 ?_
      refine lv_bipush (v := 64) hx hb dX8_anOperand_30 (by decide) ?_
      refine lv_icmp_ne (tgt := 40) hx hb dX8_anOperand_32 (by decide) (fun c4 => ?_) (fun c4 => ?_)
      · replace hM := if_f c4 hM
        refine lv_bipush (v := 21) hx hb dX8_anOperand_40 (by decide) ?_
        refine lv_aload_n hx hb dX8_anOperand_42 rfl (lv_at hl 0 rfl) ?_
        refine va_get (D := D) (ci := 8) (v := .int r2.2.1.1) (C := RX8) (T := TX8) (N := 48) hx hb hts layX8 hown hK hP 0 rfl rfl 6 (by decide) (hts _ (inA q984)) (fun _ h9 => h9) rfl dX8_anOperand_43 ?_
        obtain ⟨r5, hcr5, hM⟩ := ob_use hM
        refine cl_V (As := [.int 21, .int r2.2.1.1]) (rest := []) (wM0 ad o_X r2.2.1 o_N o_T o_U r2.2.2 r5 o_Q o_V o_I ++ wMC cI ad o_C ++ wMX cI ad o_X ++ wMN cI ad o_N ++ wMT cI ad o_T ++ wMU cI ad o_U ++ wME cI ad r5) [] ⟨hx, hb, hml, hown, hts⟩ (c_Model_waitFor l D cI sd ad o_C o_X r2.2.1 o_N o_T o_U r2.2.2 o_Q o_V o_I o_E 21 r2.2.1.1 r5 hcr5) (cwV2 hts q1381 mvX8_waitFor rfl rfl ⟨(Nat.le_of_ble_eq_true rfl), (Nat.le_of_ble_eq_true rfl)⟩) hK hE hA hP hD hS 0 (T := TX8) (N := 48) (ci := 8) rfl rfl [0, 16, 17, 18, 19] rfl (by decide) rfl rfl rfl rfl rfl rfl hl.1 (Nat.le_of_ble_eq_true rfl) dX8_anOperand_46 ⟨Nat.zero_le _, Nat.zero_le _⟩ (fun H locs hP hD hS => ?_)
        refine lv_aload_n hx hb dX8_anOperand_49 rfl (lv_at hl 0 rfl) ?_
        refine lv_sipush (v := 135) hx hb dX8_anOperand_50 (by decide) ?_
        obtain ⟨r6, hcr6, hM⟩ := ob_use hM
        refine cl_V (As := [.int 135]) (rest := []) (wM0 ad o_X r2.2.1 o_N o_T r6 r2.2.2 r5 o_Q o_V o_I ++ wMC cI ad o_C ++ wMX cI ad o_X ++ wMN cI ad o_N ++ wMT cI ad o_T ++ wMU cI ad r6 ++ wME cI ad r5) [] ⟨hx, hb, hml, hown, hts⟩ (c_Model_push l D cI sd ad o_C o_X r2.2.1 o_N o_T r2.2.2 r5 o_Q o_V o_I o_U 135 r6 hcr6) (cwV2 hts q1147 mvX8_push rfl rfl ⟨(Nat.le_of_ble_eq_true rfl), (Nat.le_of_ble_eq_true rfl)⟩) hK hE hA hP hD hS 0 (T := TX8) (N := 48) (ci := 8) rfl rfl [0, 15] rfl (by decide) rfl rfl rfl rfl rfl rfl hl.1 (Nat.le_of_ble_eq_true rfl) dX8_anOperand_53 ⟨Nat.zero_le _, Nat.zero_le _⟩ (fun H locs hP hD hS => ?_)
        refine lv_aload_n hx hb dX8_anOperand_56 rfl (lv_at hl 0 rfl) ?_
        obtain ⟨r7, hcr7, hM⟩ := ob_use hM
        refine cl_V (As := []) (rest := []) (wM0 ad o_X r7.1 r7.2 o_T r6 r2.2.2 r5 o_Q o_V o_I ++ wMC cI ad o_C ++ wMX cI ad o_X ++ wMN cI ad r7.2 ++ wMT cI ad o_T ++ wMU cI ad r6 ++ wME cI ad r5) [] ⟨hx, hb, hml, hown, hts⟩ (c_Model_step l D cI sd ad o_T r6 r2.2.2 r5 o_Q o_V o_I o_C o_X r2.2.1 o_N r7 hcr7) (cwV2 hts q1151 mvX8_step rfl rfl ⟨(Nat.le_of_ble_eq_true rfl), (Nat.le_of_ble_eq_true rfl)⟩) hK hE hA hP hD hS 0 (T := TX8) (N := 48) (ci := 8) rfl rfl [0, 1, 2, 3, 4, 5, 6, 7] rfl (by decide) rfl rfl rfl rfl rfl rfl hl.1 (Nat.le_of_ble_eq_true rfl) dX8_anOperand_57 ⟨Nat.zero_le _, Nat.zero_le _⟩ (fun H locs hP hD hS => ?_)
        refine lv_goto (tgt := 214) hx hb dX8_anOperand_60 (by decide) ?_
        cases hM
        exact rt_v hx hb hr hlk hP hD hS rfl dX8_anOperand_214
      · replace hM := if_t c4 hM
        refine lv_bipush (v := 20) hx hb dX8_anOperand_35 (by decide) ?_
        refine lv_goto (tgt := 42) hx hb dX8_anOperand_37 (by decide) ?_
        refine lv_aload_n hx hb dX8_anOperand_42 rfl (lv_at hl 0 rfl) ?_
        refine va_get (D := D) (ci := 8) (v := .int r2.2.1.1) (C := RX8) (T := TX8) (N := 48) hx hb hts layX8 hown hK hP 0 rfl rfl 6 (by decide) (hts _ (inA q984)) (fun _ h9 => h9) rfl dX8_anOperand_43 ?_
        obtain ⟨r8, hcr8, hM⟩ := ob_use hM
        refine cl_V (As := [.int 20, .int r2.2.1.1]) (rest := []) (wM0 ad o_X r2.2.1 o_N o_T o_U r2.2.2 r8 o_Q o_V o_I ++ wMC cI ad o_C ++ wMX cI ad o_X ++ wMN cI ad o_N ++ wMT cI ad o_T ++ wMU cI ad o_U ++ wME cI ad r8) [] ⟨hx, hb, hml, hown, hts⟩ (c_Model_waitFor l D cI sd ad o_C o_X r2.2.1 o_N o_T o_U r2.2.2 o_Q o_V o_I o_E 20 r2.2.1.1 r8 hcr8) (cwV2 hts q1381 mvX8_waitFor rfl rfl ⟨(Nat.le_of_ble_eq_true rfl), (Nat.le_of_ble_eq_true rfl)⟩) hK hE hA hP hD hS 0 (T := TX8) (N := 48) (ci := 8) rfl rfl [0, 16, 17, 18, 19] rfl (by decide) rfl rfl rfl rfl rfl rfl hl.1 (Nat.le_of_ble_eq_true rfl) dX8_anOperand_46 ⟨Nat.zero_le _, Nat.zero_le _⟩ (fun H locs hP hD hS => ?_)
        refine lv_aload_n hx hb dX8_anOperand_49 rfl (lv_at hl 0 rfl) ?_
        refine lv_sipush (v := 135) hx hb dX8_anOperand_50 (by decide) ?_
        obtain ⟨r9, hcr9, hM⟩ := ob_use hM
        refine cl_V (As := [.int 135]) (rest := []) (wM0 ad o_X r2.2.1 o_N o_T r9 r2.2.2 r8 o_Q o_V o_I ++ wMC cI ad o_C ++ wMX cI ad o_X ++ wMN cI ad o_N ++ wMT cI ad o_T ++ wMU cI ad r9 ++ wME cI ad r8) [] ⟨hx, hb, hml, hown, hts⟩ (c_Model_push l D cI sd ad o_C o_X r2.2.1 o_N o_T r2.2.2 r8 o_Q o_V o_I o_U 135 r9 hcr9) (cwV2 hts q1147 mvX8_push rfl rfl ⟨(Nat.le_of_ble_eq_true rfl), (Nat.le_of_ble_eq_true rfl)⟩) hK hE hA hP hD hS 0 (T := TX8) (N := 48) (ci := 8) rfl rfl [0, 15] rfl (by decide) rfl rfl rfl rfl rfl rfl hl.1 (Nat.le_of_ble_eq_true rfl) dX8_anOperand_53 ⟨Nat.zero_le _, Nat.zero_le _⟩ (fun H locs hP hD hS => ?_)
        refine lv_aload_n hx hb dX8_anOperand_56 rfl (lv_at hl 0 rfl) ?_
        obtain ⟨r10, hcr10, hM⟩ := ob_use hM
        refine cl_V (As := []) (rest := []) (wM0 ad o_X r10.1 r10.2 o_T r9 r2.2.2 r8 o_Q o_V o_I ++ wMC cI ad o_C ++ wMX cI ad o_X ++ wMN cI ad r10.2 ++ wMT cI ad o_T ++ wMU cI ad r9 ++ wME cI ad r8) [] ⟨hx, hb, hml, hown, hts⟩ (c_Model_step l D cI sd ad o_T r9 r2.2.2 r8 o_Q o_V o_I o_C o_X r2.2.1 o_N r10 hcr10) (cwV2 hts q1151 mvX8_step rfl rfl ⟨(Nat.le_of_ble_eq_true rfl), (Nat.le_of_ble_eq_true rfl)⟩) hK hE hA hP hD hS 0 (T := TX8) (N := 48) (ci := 8) rfl rfl [0, 1, 2, 3, 4, 5, 6, 7] rfl (by decide) rfl rfl rfl rfl rfl rfl hl.1 (Nat.le_of_ble_eq_true rfl) dX8_anOperand_57 ⟨Nat.zero_le _, Nat.zero_le _⟩ (fun H locs hP hD hS => ?_)
        refine lv_goto (tgt := 214) hx hb dX8_anOperand_60 (by decide) ?_
        cases hM
        exact rt_v hx hb hr hlk hP hD hS rfl dX8_anOperand_214
  · replace hM := if_f c1 hM
    refine lv_aload_n hx hb dX8_anOperand_9 rfl (lv_at hl 0 rfl) ?_
    refine va_get (D := D) (ci := 8) (v := .int o_L.2.1) (C := RX8) (T := TX8) (N := 48) hx hb hts layX8 hown hK hP 0 rfl rfl 7 (by decide) (hts _ (inA q985)) (fun _ h9 => h9) rfl dX8_anOperand_10 ?_
    refine lv_bipush (v := 34) hx hb dX8_anOperand_13 (by decide) ?_
    refine lv_icmp_ne (tgt := 63) hx hb dX8_anOperand_15 (by decide) (fun c11 => ?_) (fun c11 => ?_)
    · replace hM := if_f c11 hM
      refine lv_aload_n hx hb dX8_anOperand_63 rfl (lv_at hl 0 rfl) ?_
      refine va_get (D := D) (ci := 8) (v := .int o_L.2.1) (C := RX8) (T := TX8) (N := 48) hx hb hts layX8 hown hK hP 0 rfl rfl 7 (by decide) (hts _ (inA q985)) (fun _ h9 => h9) rfl dX8_anOperand_64 ?_
      refine lv_bipush (v := 81) hx hb dX8_anOperand_67 (by decide) ?_
      refine lv_icmp_ne (tgt := 97) hx hb dX8_anOperand_69 (by decide) (fun c12 => ?_) (fun c12 => ?_)
      · replace hM := if_f c12 hM
        refine lv_aload_n hx hb dX8_anOperand_97 rfl (lv_at hl 0 rfl) ?_
        refine va_get (D := D) (ci := 8) (v := .int o_L.2.1) (C := RX8) (T := TX8) (N := 48) hx hb hts layX8 hown hK hP 0 rfl rfl 7 (by decide) (hts _ (inA q985)) (fun _ h9 => h9) rfl dX8_anOperand_98 ?_
        refine lv_bipush (v := 35) hx hb dX8_anOperand_101 (by decide) ?_
        refine lv_icmp_eq (tgt := 115) hx hb dX8_anOperand_103 (by decide) (fun c13 => ?_) (fun c13 => ?_)
        · replace hM := if_t c13 hM
          refine lv_aload_n hx hb dX8_anOperand_115 rfl (lv_at hl 0 rfl) ?_
          refine lv_aload_n hx hb dX8_anOperand_116 rfl (lv_at hl 0 rfl) ?_
          refine lv_bipush (v := 31) hx hb dX8_anOperand_117 (by decide) ?_
          refine lv_aload_n hx hb dX8_anOperand_119 rfl (lv_at hl 0 rfl) ?_
          refine va_get (D := D) (ci := 8) (v := .int o_L.1) (C := RX8) (T := TX8) (N := 48) hx hb hts layX8 hown hK hP 0 rfl rfl 6 (by decide) (hts _ (inA q984)) (fun _ h9 => h9) rfl dX8_anOperand_120 ?_
          refine lv_aload_n hx hb dX8_anOperand_123 rfl (lv_at hl 0 rfl) ?_
          refine va_get (D := D) (ci := 8) (v := .int o_L.2.1) (C := RX8) (T := TX8) (N := 48) hx hb hts layX8 hown hK hP 0 rfl rfl 7 (by decide) (hts _ (inA q985)) (fun _ h9 => h9) rfl dX8_anOperand_124 ?_
          refine lv_bipush (v := 35) hx hb dX8_anOperand_127 (by decide) ?_
          refine lv_icmp_ne (tgt := 136) hx hb dX8_anOperand_129 (by decide) (fun c14 => ?_) (fun c14 => ?_)
          · replace hM := if_f c14 hM
            refine lv_iconst (v := 0) hx hb dX8_anOperand_136 (by decide) ?_
            obtain ⟨r15, hcr15, hM⟩ := ob_use hM
            refine cl_V (As := [.int 31, .int o_L.1, .int 0]) (rest := [.ref (ad 100)]) (wM0 ad o_X o_L o_N r15.2 o_U o_O o_E o_Q o_V o_I ++ wMC cI ad o_C ++ wMX cI ad o_X ++ wMN cI ad o_N ++ wMT cI ad r15.2 ++ wMU cI ad o_U ++ wME cI ad o_E) (.int r15.1 :: [.ref (ad 100)]) ⟨hx, hb, hml, hown, hts⟩ (c_Model_make l D cI sd ad o_C o_X o_L o_N o_U o_O o_E o_Q o_V o_I o_T 31 o_L.1 0 r15 hcr15) (cwV2 hts q1143 mvX8_make rfl rfl ⟨(Nat.le_of_ble_eq_true rfl), (Nat.le_of_ble_eq_true rfl)⟩) hK hE hA hP hD hS 0 (T := TX8) (N := 48) (ci := 8) rfl rfl [0, 8, 9, 10, 11, 12, 13, 14] rfl (by decide) rfl rfl rfl rfl rfl rfl hl.1 (Nat.le_of_ble_eq_true rfl) dX8_anOperand_137 ⟨Nat.zero_le _, Nat.zero_le _⟩ (fun H locs hP hD hS => ?_)
            obtain ⟨r16, hcr16, hM⟩ := ob_use hM
            refine cl_V (As := [.int r15.1]) (rest := []) (wM0 ad o_X o_L o_N r16.1 o_U r16.2.1 r16.2.2 o_Q o_V o_I ++ wMC cI ad o_C ++ wMX cI ad o_X ++ wMN cI ad o_N ++ wMT cI ad r16.1 ++ wMU cI ad o_U ++ wME cI ad r16.2.2) [] ⟨hx, hb, hml, hown, hts⟩ (c_Model_operandCame l D cI sd ad o_C o_X o_L o_N o_U o_Q o_V o_I r15.2 o_O o_E r15.1 r16 hcr16) (cwV2 hts q1389 mvX8_operandCame rfl rfl ⟨(Nat.le_of_ble_eq_true rfl), (Nat.le_of_ble_eq_true rfl)⟩) hK hE hA hP hD hS 0 (T := TX8) (N := 48) (ci := 8) rfl rfl [0, 8, 9, 10, 11, 12, 13, 14, 16, 17, 18, 19] rfl (by decide) rfl rfl rfl rfl rfl rfl hl.1 (Nat.le_of_ble_eq_true rfl) dX8_anOperand_140 ⟨Nat.zero_le _, Nat.zero_le _⟩ (fun H locs hP hD hS => ?_)
            refine lv_aload_n hx hb dX8_anOperand_143 rfl (lv_at hl 0 rfl) ?_
            obtain ⟨r17, hcr17, hM⟩ := ob_use hM
            refine cl_V (As := []) (rest := []) (wM0 ad o_X r17.1 r17.2 r16.1 o_U r16.2.1 r16.2.2 o_Q o_V o_I ++ wMC cI ad o_C ++ wMX cI ad o_X ++ wMN cI ad r17.2 ++ wMT cI ad r16.1 ++ wMU cI ad o_U ++ wME cI ad r16.2.2) [] ⟨hx, hb, hml, hown, hts⟩ (c_Model_step l D cI sd ad r16.1 o_U r16.2.1 r16.2.2 o_Q o_V o_I o_C o_X o_L o_N r17 hcr17) (cwV2 hts q1151 mvX8_step rfl rfl ⟨(Nat.le_of_ble_eq_true rfl), (Nat.le_of_ble_eq_true rfl)⟩) hK hE hA hP hD hS 0 (T := TX8) (N := 48) (ci := 8) rfl rfl [0, 1, 2, 3, 4, 5, 6, 7] rfl (by decide) rfl rfl rfl rfl rfl rfl hl.1 (Nat.le_of_ble_eq_true rfl) dX8_anOperand_144 ⟨Nat.zero_le _, Nat.zero_le _⟩ (fun H locs hP hD hS => ?_)
            refine lv_goto (tgt := 214) hx hb dX8_anOperand_147 (by decide) ?_
            cases hM
            exact rt_v hx hb hr hlk hP hD hS rfl dX8_anOperand_214
          · replace hM := if_t c14 hM
            refine lv_iconst (v := 1) hx hb dX8_anOperand_132 (by decide) ?_
            refine lv_goto (tgt := 137) hx hb dX8_anOperand_133 (by decide) ?_
            obtain ⟨r18, hcr18, hM⟩ := ob_use hM
            refine cl_V (As := [.int 31, .int o_L.1, .int 1]) (rest := [.ref (ad 100)]) (wM0 ad o_X o_L o_N r18.2 o_U o_O o_E o_Q o_V o_I ++ wMC cI ad o_C ++ wMX cI ad o_X ++ wMN cI ad o_N ++ wMT cI ad r18.2 ++ wMU cI ad o_U ++ wME cI ad o_E) (.int r18.1 :: [.ref (ad 100)]) ⟨hx, hb, hml, hown, hts⟩ (c_Model_make l D cI sd ad o_C o_X o_L o_N o_U o_O o_E o_Q o_V o_I o_T 31 o_L.1 1 r18 hcr18) (cwV2 hts q1143 mvX8_make rfl rfl ⟨(Nat.le_of_ble_eq_true rfl), (Nat.le_of_ble_eq_true rfl)⟩) hK hE hA hP hD hS 0 (T := TX8) (N := 48) (ci := 8) rfl rfl [0, 8, 9, 10, 11, 12, 13, 14] rfl (by decide) rfl rfl rfl rfl rfl rfl hl.1 (Nat.le_of_ble_eq_true rfl) dX8_anOperand_137 ⟨Nat.zero_le _, Nat.zero_le _⟩ (fun H locs hP hD hS => ?_)
            obtain ⟨r19, hcr19, hM⟩ := ob_use hM
            refine cl_V (As := [.int r18.1]) (rest := []) (wM0 ad o_X o_L o_N r19.1 o_U r19.2.1 r19.2.2 o_Q o_V o_I ++ wMC cI ad o_C ++ wMX cI ad o_X ++ wMN cI ad o_N ++ wMT cI ad r19.1 ++ wMU cI ad o_U ++ wME cI ad r19.2.2) [] ⟨hx, hb, hml, hown, hts⟩ (c_Model_operandCame l D cI sd ad o_C o_X o_L o_N o_U o_Q o_V o_I r18.2 o_O o_E r18.1 r19 hcr19) (cwV2 hts q1389 mvX8_operandCame rfl rfl ⟨(Nat.le_of_ble_eq_true rfl), (Nat.le_of_ble_eq_true rfl)⟩) hK hE hA hP hD hS 0 (T := TX8) (N := 48) (ci := 8) rfl rfl [0, 8, 9, 10, 11, 12, 13, 14, 16, 17, 18, 19] rfl (by decide) rfl rfl rfl rfl rfl rfl hl.1 (Nat.le_of_ble_eq_true rfl) dX8_anOperand_140 ⟨Nat.zero_le _, Nat.zero_le _⟩ (fun H locs hP hD hS => ?_)
            refine lv_aload_n hx hb dX8_anOperand_143 rfl (lv_at hl 0 rfl) ?_
            obtain ⟨r20, hcr20, hM⟩ := ob_use hM
            refine cl_V (As := []) (rest := []) (wM0 ad o_X r20.1 r20.2 r19.1 o_U r19.2.1 r19.2.2 o_Q o_V o_I ++ wMC cI ad o_C ++ wMX cI ad o_X ++ wMN cI ad r20.2 ++ wMT cI ad r19.1 ++ wMU cI ad o_U ++ wME cI ad r19.2.2) [] ⟨hx, hb, hml, hown, hts⟩ (c_Model_step l D cI sd ad r19.1 o_U r19.2.1 r19.2.2 o_Q o_V o_I o_C o_X o_L o_N r20 hcr20) (cwV2 hts q1151 mvX8_step rfl rfl ⟨(Nat.le_of_ble_eq_true rfl), (Nat.le_of_ble_eq_true rfl)⟩) hK hE hA hP hD hS 0 (T := TX8) (N := 48) (ci := 8) rfl rfl [0, 1, 2, 3, 4, 5, 6, 7] rfl (by decide) rfl rfl rfl rfl rfl rfl hl.1 (Nat.le_of_ble_eq_true rfl) dX8_anOperand_144 ⟨Nat.zero_le _, Nat.zero_le _⟩ (fun H locs hP hD hS => ?_)
            refine lv_goto (tgt := 214) hx hb dX8_anOperand_147 (by decide) ?_
            cases hM
            exact rt_v hx hb hr hlk hP hD hS rfl dX8_anOperand_214
        · replace hM := if_f c13 hM
          refine lv_aload_n hx hb dX8_anOperand_106 rfl (lv_at hl 0 rfl) ?_
          refine va_get (D := D) (ci := 8) (v := .int o_L.2.1) (C := RX8) (T := TX8) (N := 48) hx hb hts layX8 hown hK hP 0 rfl rfl 7 (by decide) (hts _ (inA q985)) (fun _ h9 => h9) rfl dX8_anOperand_107 ?_
          refine lv_bipush (v := 36) hx hb dX8_anOperand_110 (by decide) ?_
          refine lv_icmp_ne (tgt := 150) hx hb dX8_anOperand_112 (by decide) (fun c21 => ?_) (fun c21 => ?_)
          · replace hM := if_f c21 hM
            refine lv_aload_n hx hb dX8_anOperand_150 rfl (lv_at hl 0 rfl) ?_
            refine va_get (D := D) (ci := 8) (v := .int o_L.2.1) (C := RX8) (T := TX8) (N := 48) hx hb hts layX8 hown hK hP 0 rfl rfl 7 (by decide) (hts _ (inA q985)) (fun _ h9 => h9) rfl dX8_anOperand_151 ?_
            refine lv_bipush (v := 55) hx hb dX8_anOperand_154 (by decide) ?_
            refine lv_icmp_ne (tgt := 183) hx hb dX8_anOperand_156 (by decide) (fun c22 => ?_) (fun c22 => ?_)
            · replace hM := if_f c22 hM
              refine lv_aload_n hx hb dX8_anOperand_183 rfl (lv_at hl 0 rfl) ?_
              refine va_get (D := D) (ci := 8) (v := .int o_L.2.1) (C := RX8) (T := TX8) (N := 48) hx hb hts layX8 hown hK hP 0 rfl rfl 7 (by decide) (hts _ (inA q985)) (fun _ h9 => h9) rfl dX8_anOperand_184 ?_
              refine lv_bipush (v := 80) hx hb dX8_anOperand_187 (by decide) ?_
              refine lv_icmp_ne (tgt := 210) hx hb dX8_anOperand_189 (by decide) (fun c23 => ?_) (fun c23 => ?_)
              · replace hM := if_f c23 hM
                refine lv_aload_n hx hb dX8_anOperand_210 rfl (lv_at hl 0 rfl) ?_
                obtain ⟨r24, hcr24, hM⟩ := ob_use hM
                refine cl_V (As := []) (rest := []) (wM0 ad o_X r24 o_N o_T o_U o_O o_E o_Q o_V o_I ++ wMC cI ad o_C ++ wMX cI ad o_X ++ wMN cI ad o_N ++ wMT cI ad o_T ++ wMU cI ad o_U ++ wME cI ad o_E) [] ⟨hx, hb, hml, hown, hts⟩ (c_Model_wrong l D cI sd ad o_C o_X o_N o_T o_U o_O o_E o_Q o_V o_I o_L r24 hcr24) (cwV2 hts q1233 mvX8_wrong rfl rfl ⟨(Nat.le_of_ble_eq_true rfl), (Nat.le_of_ble_eq_true rfl)⟩) hK hE hA hP hD hS 0 (T := TX8) (N := 48) (ci := 8) rfl rfl [0] rfl (by decide) rfl rfl rfl rfl rfl rfl hl.1 (Nat.le_of_ble_eq_true rfl) dX8_anOperand_211 ⟨Nat.zero_le _, Nat.zero_le _⟩ (fun H locs hP hD hS => ?_)
                cases hM
                exact rt_v hx hb hr hlk hP hD hS rfl dX8_anOperand_214
              · replace hM := if_t c23 hM
                refine lv_aload_n hx hb dX8_anOperand_192 rfl (lv_at hl 0 rfl) ?_
                obtain ⟨r25, hcr25, hM⟩ := ob_use hM
                refine cl_V (As := []) (rest := []) (wM0 ad o_X o_L o_N o_T o_U r25 o_E o_Q o_V o_I ++ wMC cI ad o_C ++ wMX cI ad o_X ++ wMN cI ad o_N ++ wMT cI ad o_T ++ wMU cI ad o_U ++ wME cI ad o_E) [] ⟨hx, hb, hml, hown, hts⟩ (c_Model_keepName l D cI sd ad o_C o_X o_N o_T o_U o_E o_Q o_V o_I o_L o_O r25 hcr25) (cwV2 hts q1317 mvX8_keepName rfl rfl ⟨(Nat.le_of_ble_eq_true rfl), (Nat.le_of_ble_eq_true rfl)⟩) hK hE hA hP hD hS 0 (T := TX8) (N := 48) (ci := 8) rfl rfl [0] rfl (by decide) rfl rfl rfl rfl rfl rfl hl.1 (Nat.le_of_ble_eq_true rfl) dX8_anOperand_193 ⟨Nat.zero_le _, Nat.zero_le _⟩ (fun H locs hP hD hS => ?_)
                refine lv_aload_n hx hb dX8_anOperand_196 rfl (lv_at hl 0 rfl) ?_
                refine lv_sipush (v := 139) hx hb dX8_anOperand_197 (by decide) ?_
                obtain ⟨r26, hcr26, hM⟩ := ob_use hM
                refine cl_V (As := [.int 139]) (rest := []) (wM0 ad o_X o_L o_N o_T r26 r25 o_E o_Q o_V o_I ++ wMC cI ad o_C ++ wMX cI ad o_X ++ wMN cI ad o_N ++ wMT cI ad o_T ++ wMU cI ad r26 ++ wME cI ad o_E) [] ⟨hx, hb, hml, hown, hts⟩ (c_Model_push l D cI sd ad o_C o_X o_L o_N o_T r25 o_E o_Q o_V o_I o_U 139 r26 hcr26) (cwV2 hts q1147 mvX8_push rfl rfl ⟨(Nat.le_of_ble_eq_true rfl), (Nat.le_of_ble_eq_true rfl)⟩) hK hE hA hP hD hS 0 (T := TX8) (N := 48) (ci := 8) rfl rfl [0, 15] rfl (by decide) rfl rfl rfl rfl rfl rfl hl.1 (Nat.le_of_ble_eq_true rfl) dX8_anOperand_200 ⟨Nat.zero_le _, Nat.zero_le _⟩ (fun H locs hP hD hS => ?_)
                refine lv_aload_n hx hb dX8_anOperand_203 rfl (lv_at hl 0 rfl) ?_
                obtain ⟨r27, hcr27, hM⟩ := ob_use hM
                refine cl_V (As := []) (rest := []) (wM0 ad o_X r27.1 r27.2 o_T r26 r25 o_E o_Q o_V o_I ++ wMC cI ad o_C ++ wMX cI ad o_X ++ wMN cI ad r27.2 ++ wMT cI ad o_T ++ wMU cI ad r26 ++ wME cI ad o_E) [] ⟨hx, hb, hml, hown, hts⟩ (c_Model_step l D cI sd ad o_T r26 r25 o_E o_Q o_V o_I o_C o_X o_L o_N r27 hcr27) (cwV2 hts q1151 mvX8_step rfl rfl ⟨(Nat.le_of_ble_eq_true rfl), (Nat.le_of_ble_eq_true rfl)⟩) hK hE hA hP hD hS 0 (T := TX8) (N := 48) (ci := 8) rfl rfl [0, 1, 2, 3, 4, 5, 6, 7] rfl (by decide) rfl rfl rfl rfl rfl rfl hl.1 (Nat.le_of_ble_eq_true rfl) dX8_anOperand_204 ⟨Nat.zero_le _, Nat.zero_le _⟩ (fun H locs hP hD hS => ?_)
                refine lv_goto (tgt := 214) hx hb dX8_anOperand_207 (by decide) ?_
                cases hM
                exact rt_v hx hb hr hlk hP hD hS rfl dX8_anOperand_214
            · replace hM := if_t c22 hM
              refine lv_aload_n hx hb dX8_anOperand_159 rfl (lv_at hl 0 rfl) ?_
              obtain ⟨r28, hcr28, hM⟩ := ob_use hM
              refine cl_V (As := []) (rest := []) (wM0 ad o_X r28.2.1 o_N o_T o_U r28.2.2 o_E o_Q o_V o_I ++ wMC cI ad o_C ++ wMX cI ad o_X ++ wMN cI ad o_N ++ wMT cI ad o_T ++ wMU cI ad o_U ++ wME cI ad o_E) (.int r28.1 :: []) ⟨hx, hb, hml, hown, hts⟩ (c_Model_opens l D cI sd ad o_C o_X o_N o_T o_U o_E o_Q o_V o_I o_L o_O r28 hcr28) (cwV2 hts q1321 mvX8_opens rfl rfl ⟨(Nat.le_of_ble_eq_true rfl), (Nat.le_of_ble_eq_true rfl)⟩) hK hE hA hP hD hS 0 (T := TX8) (N := 48) (ci := 8) rfl rfl [0] rfl (by decide) rfl rfl rfl rfl rfl rfl hl.1 (Nat.le_of_ble_eq_true rfl) dX8_anOperand_160 ⟨Nat.zero_le _, Nat.zero_le _⟩ (fun H locs hP hD hS => ?_)
              refine lv_if_eq (tgt := 214) hx hb dX8_anOperand_163 (by decide) (fun c29 => ?_) (fun c29 => ?_)
              · replace hM := if_t c29 hM
                cases hM
                exact rt_v hx hb hr hlk hP hD hS rfl dX8_anOperand_214
              · replace hM := if_f c29 hM
                refine lv_aload_n hx hb dX8_anOperand_166 rfl (lv_at hl 0 rfl) ?_
                refine lv_sipush (v := 138) hx hb dX8_anOperand_167 (by decide) ?_
                refine lv_sipush (v := 134) hx hb dX8_anOperand_170 (by decide) ?_
                obtain ⟨r30, hcr30, hM⟩ := ob_use hM
                refine cl_V (As := [.int 138, .int 134]) (rest := []) (wM0 ad o_X r28.2.1 o_N o_T r30 r28.2.2 o_E o_Q o_V o_I ++ wMC cI ad o_C ++ wMX cI ad o_X ++ wMN cI ad o_N ++ wMT cI ad o_T ++ wMU cI ad r30 ++ wME cI ad o_E) [] ⟨hx, hb, hml, hown, hts⟩ (c_Model_push2 l D cI sd ad o_C o_X r28.2.1 o_N o_T r28.2.2 o_E o_Q o_V o_I o_U 138 134 r30 hcr30) (cwV2 hts q1257 mvX8_push2 rfl rfl ⟨(Nat.le_of_ble_eq_true rfl), (Nat.le_of_ble_eq_true rfl)⟩) hK hE hA hP hD hS 0 (T := TX8) (N := 48) (ci := 8) rfl rfl [0, 15] rfl (by decide) rfl rfl rfl rfl rfl rfl hl.1 (Nat.le_of_ble_eq_true rfl) dX8_anOperand_173 ⟨Nat.zero_le _, Nat.zero_le _⟩ (fun H locs hP hD hS => ?_)
                refine lv_aload_n hx hb dX8_anOperand_176 rfl (lv_at hl 0 rfl) ?_
                obtain ⟨r31, hcr31, hM⟩ := ob_use hM
                refine cl_V (As := []) (rest := []) (wM0 ad o_X r31.1 r31.2 o_T r30 r28.2.2 o_E o_Q o_V o_I ++ wMC cI ad o_C ++ wMX cI ad o_X ++ wMN cI ad r31.2 ++ wMT cI ad o_T ++ wMU cI ad r30 ++ wME cI ad o_E) [] ⟨hx, hb, hml, hown, hts⟩ (c_Model_step l D cI sd ad o_T r30 r28.2.2 o_E o_Q o_V o_I o_C o_X r28.2.1 o_N r31 hcr31) (cwV2 hts q1151 mvX8_step rfl rfl ⟨(Nat.le_of_ble_eq_true rfl), (Nat.le_of_ble_eq_true rfl)⟩) hK hE hA hP hD hS 0 (T := TX8) (N := 48) (ci := 8) rfl rfl [0, 1, 2, 3, 4, 5, 6, 7] rfl (by decide) rfl rfl rfl rfl rfl rfl hl.1 (Nat.le_of_ble_eq_true rfl) dX8_anOperand_177 ⟨Nat.zero_le _, Nat.zero_le _⟩ (fun H locs hP hD hS => ?_)
                refine lv_goto (tgt := 214) hx hb dX8_anOperand_180 (by decide) ?_
                cases hM
                exact rt_v hx hb hr hlk hP hD hS rfl dX8_anOperand_214
          · replace hM := if_t c21 hM
            refine lv_aload_n hx hb dX8_anOperand_115 rfl (lv_at hl 0 rfl) ?_
            refine lv_aload_n hx hb dX8_anOperand_116 rfl (lv_at hl 0 rfl) ?_
            refine lv_bipush (v := 31) hx hb dX8_anOperand_117 (by decide) ?_
            refine lv_aload_n hx hb dX8_anOperand_119 rfl (lv_at hl 0 rfl) ?_
            refine va_get (D := D) (ci := 8) (v := .int o_L.1) (C := RX8) (T := TX8) (N := 48) hx hb hts layX8 hown hK hP 0 rfl rfl 6 (by decide) (hts _ (inA q984)) (fun _ h9 => h9) rfl dX8_anOperand_120 ?_
            refine lv_aload_n hx hb dX8_anOperand_123 rfl (lv_at hl 0 rfl) ?_
            refine va_get (D := D) (ci := 8) (v := .int o_L.2.1) (C := RX8) (T := TX8) (N := 48) hx hb hts layX8 hown hK hP 0 rfl rfl 7 (by decide) (hts _ (inA q985)) (fun _ h9 => h9) rfl dX8_anOperand_124 ?_
            refine lv_bipush (v := 35) hx hb dX8_anOperand_127 (by decide) ?_
            refine lv_icmp_ne (tgt := 136) hx hb dX8_anOperand_129 (by decide) (fun c32 => ?_) (fun c32 => ?_)
            · replace hM := if_f c32 hM
              refine lv_iconst (v := 0) hx hb dX8_anOperand_136 (by decide) ?_
              obtain ⟨r33, hcr33, hM⟩ := ob_use hM
              refine cl_V (As := [.int 31, .int o_L.1, .int 0]) (rest := [.ref (ad 100)]) (wM0 ad o_X o_L o_N r33.2 o_U o_O o_E o_Q o_V o_I ++ wMC cI ad o_C ++ wMX cI ad o_X ++ wMN cI ad o_N ++ wMT cI ad r33.2 ++ wMU cI ad o_U ++ wME cI ad o_E) (.int r33.1 :: [.ref (ad 100)]) ⟨hx, hb, hml, hown, hts⟩ (c_Model_make l D cI sd ad o_C o_X o_L o_N o_U o_O o_E o_Q o_V o_I o_T 31 o_L.1 0 r33 hcr33) (cwV2 hts q1143 mvX8_make rfl rfl ⟨(Nat.le_of_ble_eq_true rfl), (Nat.le_of_ble_eq_true rfl)⟩) hK hE hA hP hD hS 0 (T := TX8) (N := 48) (ci := 8) rfl rfl [0, 8, 9, 10, 11, 12, 13, 14] rfl (by decide) rfl rfl rfl rfl rfl rfl hl.1 (Nat.le_of_ble_eq_true rfl) dX8_anOperand_137 ⟨Nat.zero_le _, Nat.zero_le _⟩ (fun H locs hP hD hS => ?_)
              obtain ⟨r34, hcr34, hM⟩ := ob_use hM
              refine cl_V (As := [.int r33.1]) (rest := []) (wM0 ad o_X o_L o_N r34.1 o_U r34.2.1 r34.2.2 o_Q o_V o_I ++ wMC cI ad o_C ++ wMX cI ad o_X ++ wMN cI ad o_N ++ wMT cI ad r34.1 ++ wMU cI ad o_U ++ wME cI ad r34.2.2) [] ⟨hx, hb, hml, hown, hts⟩ (c_Model_operandCame l D cI sd ad o_C o_X o_L o_N o_U o_Q o_V o_I r33.2 o_O o_E r33.1 r34 hcr34) (cwV2 hts q1389 mvX8_operandCame rfl rfl ⟨(Nat.le_of_ble_eq_true rfl), (Nat.le_of_ble_eq_true rfl)⟩) hK hE hA hP hD hS 0 (T := TX8) (N := 48) (ci := 8) rfl rfl [0, 8, 9, 10, 11, 12, 13, 14, 16, 17, 18, 19] rfl (by decide) rfl rfl rfl rfl rfl rfl hl.1 (Nat.le_of_ble_eq_true rfl) dX8_anOperand_140 ⟨Nat.zero_le _, Nat.zero_le _⟩ (fun H locs hP hD hS => ?_)
              refine lv_aload_n hx hb dX8_anOperand_143 rfl (lv_at hl 0 rfl) ?_
              obtain ⟨r35, hcr35, hM⟩ := ob_use hM
              refine cl_V (As := []) (rest := []) (wM0 ad o_X r35.1 r35.2 r34.1 o_U r34.2.1 r34.2.2 o_Q o_V o_I ++ wMC cI ad o_C ++ wMX cI ad o_X ++ wMN cI ad r35.2 ++ wMT cI ad r34.1 ++ wMU cI ad o_U ++ wME cI ad r34.2.2) [] ⟨hx, hb, hml, hown, hts⟩ (c_Model_step l D cI sd ad r34.1 o_U r34.2.1 r34.2.2 o_Q o_V o_I o_C o_X o_L o_N r35 hcr35) (cwV2 hts q1151 mvX8_step rfl rfl ⟨(Nat.le_of_ble_eq_true rfl), (Nat.le_of_ble_eq_true rfl)⟩) hK hE hA hP hD hS 0 (T := TX8) (N := 48) (ci := 8) rfl rfl [0, 1, 2, 3, 4, 5, 6, 7] rfl (by decide) rfl rfl rfl rfl rfl rfl hl.1 (Nat.le_of_ble_eq_true rfl) dX8_anOperand_144 ⟨Nat.zero_le _, Nat.zero_le _⟩ (fun H locs hP hD hS => ?_)
              refine lv_goto (tgt := 214) hx hb dX8_anOperand_147 (by decide) ?_
              cases hM
              exact rt_v hx hb hr hlk hP hD hS rfl dX8_anOperand_214
            · replace hM := if_t c32 hM
              refine lv_iconst (v := 1) hx hb dX8_anOperand_132 (by decide) ?_
              refine lv_goto (tgt := 137) hx hb dX8_anOperand_133 (by decide) ?_
              obtain ⟨r36, hcr36, hM⟩ := ob_use hM
              refine cl_V (As := [.int 31, .int o_L.1, .int 1]) (rest := [.ref (ad 100)]) (wM0 ad o_X o_L o_N r36.2 o_U o_O o_E o_Q o_V o_I ++ wMC cI ad o_C ++ wMX cI ad o_X ++ wMN cI ad o_N ++ wMT cI ad r36.2 ++ wMU cI ad o_U ++ wME cI ad o_E) (.int r36.1 :: [.ref (ad 100)]) ⟨hx, hb, hml, hown, hts⟩ (c_Model_make l D cI sd ad o_C o_X o_L o_N o_U o_O o_E o_Q o_V o_I o_T 31 o_L.1 1 r36 hcr36) (cwV2 hts q1143 mvX8_make rfl rfl ⟨(Nat.le_of_ble_eq_true rfl), (Nat.le_of_ble_eq_true rfl)⟩) hK hE hA hP hD hS 0 (T := TX8) (N := 48) (ci := 8) rfl rfl [0, 8, 9, 10, 11, 12, 13, 14] rfl (by decide) rfl rfl rfl rfl rfl rfl hl.1 (Nat.le_of_ble_eq_true rfl) dX8_anOperand_137 ⟨Nat.zero_le _, Nat.zero_le _⟩ (fun H locs hP hD hS => ?_)
              obtain ⟨r37, hcr37, hM⟩ := ob_use hM
              refine cl_V (As := [.int r36.1]) (rest := []) (wM0 ad o_X o_L o_N r37.1 o_U r37.2.1 r37.2.2 o_Q o_V o_I ++ wMC cI ad o_C ++ wMX cI ad o_X ++ wMN cI ad o_N ++ wMT cI ad r37.1 ++ wMU cI ad o_U ++ wME cI ad r37.2.2) [] ⟨hx, hb, hml, hown, hts⟩ (c_Model_operandCame l D cI sd ad o_C o_X o_L o_N o_U o_Q o_V o_I r36.2 o_O o_E r36.1 r37 hcr37) (cwV2 hts q1389 mvX8_operandCame rfl rfl ⟨(Nat.le_of_ble_eq_true rfl), (Nat.le_of_ble_eq_true rfl)⟩) hK hE hA hP hD hS 0 (T := TX8) (N := 48) (ci := 8) rfl rfl [0, 8, 9, 10, 11, 12, 13, 14, 16, 17, 18, 19] rfl (by decide) rfl rfl rfl rfl rfl rfl hl.1 (Nat.le_of_ble_eq_true rfl) dX8_anOperand_140 ⟨Nat.zero_le _, Nat.zero_le _⟩ (fun H locs hP hD hS => ?_)
              refine lv_aload_n hx hb dX8_anOperand_143 rfl (lv_at hl 0 rfl) ?_
              obtain ⟨r38, hcr38, hM⟩ := ob_use hM
              refine cl_V (As := []) (rest := []) (wM0 ad o_X r38.1 r38.2 r37.1 o_U r37.2.1 r37.2.2 o_Q o_V o_I ++ wMC cI ad o_C ++ wMX cI ad o_X ++ wMN cI ad r38.2 ++ wMT cI ad r37.1 ++ wMU cI ad o_U ++ wME cI ad r37.2.2) [] ⟨hx, hb, hml, hown, hts⟩ (c_Model_step l D cI sd ad r37.1 o_U r37.2.1 r37.2.2 o_Q o_V o_I o_C o_X o_L o_N r38 hcr38) (cwV2 hts q1151 mvX8_step rfl rfl ⟨(Nat.le_of_ble_eq_true rfl), (Nat.le_of_ble_eq_true rfl)⟩) hK hE hA hP hD hS 0 (T := TX8) (N := 48) (ci := 8) rfl rfl [0, 1, 2, 3, 4, 5, 6, 7] rfl (by decide) rfl rfl rfl rfl rfl rfl hl.1 (Nat.le_of_ble_eq_true rfl) dX8_anOperand_144 ⟨Nat.zero_le _, Nat.zero_le _⟩ (fun H locs hP hD hS => ?_)
              refine lv_goto (tgt := 214) hx hb dX8_anOperand_147 (by decide) ?_
              cases hM
              exact rt_v hx hb hr hlk hP hD hS rfl dX8_anOperand_214
      · replace hM := if_t c12 hM
        refine lv_aload_n hx hb dX8_anOperand_72 rfl (lv_at hl 0 rfl) ?_
        refine lv_aload_n hx hb dX8_anOperand_73 rfl (lv_at hl 0 rfl) ?_
        refine lv_bipush (v := 30) hx hb dX8_anOperand_74 (by decide) ?_
        refine lv_aload_n hx hb dX8_anOperand_76 rfl (lv_at hl 0 rfl) ?_
        refine va_get (D := D) (ci := 8) (v := .int o_L.1) (C := RX8) (T := TX8) (N := 48) hx hb hts layX8 hown hK hP 0 rfl rfl 6 (by decide) (hts _ (inA q984)) (fun _ h9 => h9) rfl dX8_anOperand_77 ?_
        refine lv_aload_n hx hb dX8_anOperand_80 rfl (lv_at hl 0 rfl) ?_
        refine va_get (D := D) (ci := 8) (v := .int o_L.2.2.1) (C := RX8) (T := TX8) (N := 48) hx hb hts layX8 hown hK hP 0 rfl rfl 8 (by decide) (hts _ (inA q986)) (fun _ h9 => h9) rfl dX8_anOperand_81 ?_
        obtain ⟨r39, hcr39, hM⟩ := ob_use hM
        refine cl_V (As := [.int 30, .int o_L.1, .int o_L.2.2.1]) (rest := [.ref (ad 100)]) (wM0 ad o_X o_L o_N r39.2 o_U o_O o_E o_Q o_V o_I ++ wMC cI ad o_C ++ wMX cI ad o_X ++ wMN cI ad o_N ++ wMT cI ad r39.2 ++ wMU cI ad o_U ++ wME cI ad o_E) (.int r39.1 :: [.ref (ad 100)]) ⟨hx, hb, hml, hown, hts⟩ (c_Model_make l D cI sd ad o_C o_X o_L o_N o_U o_O o_E o_Q o_V o_I o_T 30 o_L.1 o_L.2.2.1 r39 hcr39) (cwV2 hts q1143 mvX8_make rfl rfl ⟨(Nat.le_of_ble_eq_true rfl), (Nat.le_of_ble_eq_true rfl)⟩) hK hE hA hP hD hS 0 (T := TX8) (N := 48) (ci := 8) rfl rfl [0, 8, 9, 10, 11, 12, 13, 14] rfl (by decide) rfl rfl rfl rfl rfl rfl hl.1 (Nat.le_of_ble_eq_true rfl) dX8_anOperand_84 ⟨Nat.zero_le _, Nat.zero_le _⟩ (fun H locs hP hD hS => ?_)
        obtain ⟨r40, hcr40, hM⟩ := ob_use hM
        refine cl_V (As := [.int r39.1]) (rest := []) (wM0 ad o_X o_L o_N r40.1 o_U r40.2.1 r40.2.2 o_Q o_V o_I ++ wMC cI ad o_C ++ wMX cI ad o_X ++ wMN cI ad o_N ++ wMT cI ad r40.1 ++ wMU cI ad o_U ++ wME cI ad r40.2.2) [] ⟨hx, hb, hml, hown, hts⟩ (c_Model_operandCame l D cI sd ad o_C o_X o_L o_N o_U o_Q o_V o_I r39.2 o_O o_E r39.1 r40 hcr40) (cwV2 hts q1389 mvX8_operandCame rfl rfl ⟨(Nat.le_of_ble_eq_true rfl), (Nat.le_of_ble_eq_true rfl)⟩) hK hE hA hP hD hS 0 (T := TX8) (N := 48) (ci := 8) rfl rfl [0, 8, 9, 10, 11, 12, 13, 14, 16, 17, 18, 19] rfl (by decide) rfl rfl rfl rfl rfl rfl hl.1 (Nat.le_of_ble_eq_true rfl) dX8_anOperand_87 ⟨Nat.zero_le _, Nat.zero_le _⟩ (fun H locs hP hD hS => ?_)
        refine lv_aload_n hx hb dX8_anOperand_90 rfl (lv_at hl 0 rfl) ?_
        obtain ⟨r41, hcr41, hM⟩ := ob_use hM
        refine cl_V (As := []) (rest := []) (wM0 ad o_X r41.1 r41.2 r40.1 o_U r40.2.1 r40.2.2 o_Q o_V o_I ++ wMC cI ad o_C ++ wMX cI ad o_X ++ wMN cI ad r41.2 ++ wMT cI ad r40.1 ++ wMU cI ad o_U ++ wME cI ad r40.2.2) [] ⟨hx, hb, hml, hown, hts⟩ (c_Model_step l D cI sd ad r40.1 o_U r40.2.1 r40.2.2 o_Q o_V o_I o_C o_X o_L o_N r41 hcr41) (cwV2 hts q1151 mvX8_step rfl rfl ⟨(Nat.le_of_ble_eq_true rfl), (Nat.le_of_ble_eq_true rfl)⟩) hK hE hA hP hD hS 0 (T := TX8) (N := 48) (ci := 8) rfl rfl [0, 1, 2, 3, 4, 5, 6, 7] rfl (by decide) rfl rfl rfl rfl rfl rfl hl.1 (Nat.le_of_ble_eq_true rfl) dX8_anOperand_91 ⟨Nat.zero_le _, Nat.zero_le _⟩ (fun H locs hP hD hS => ?_)
        refine lv_goto (tgt := 214) hx hb dX8_anOperand_94 (by decide) ?_
        cases hM
        exact rt_v hx hb hr hlk hP hD hS rfl dX8_anOperand_214
    · replace hM := if_t c11 hM
      refine lv_aload_n hx hb dX8_anOperand_18 rfl (lv_at hl 0 rfl) ?_
      obtain ⟨r42, hcr42, hM⟩ := ob_use hM
      refine cl_V (As := []) (rest := []) (wM0 ad o_X r42.2.1 o_N o_T o_U r42.2.2 o_E o_Q o_V o_I ++ wMC cI ad o_C ++ wMX cI ad o_X ++ wMN cI ad o_N ++ wMT cI ad o_T ++ wMU cI ad o_U ++ wME cI ad o_E) (.int r42.1 :: []) ⟨hx, hb, hml, hown, hts⟩ (c_Model_opens l D cI sd ad o_C o_X o_N o_T o_U o_E o_Q o_V o_I o_L o_O r42 hcr42) (cwV2 hts q1321 mvX8_opens rfl rfl ⟨(Nat.le_of_ble_eq_true rfl), (Nat.le_of_ble_eq_true rfl)⟩) hK hE hA hP hD hS 0 (T := TX8) (N := 48) (ci := 8) rfl rfl [0] rfl (by decide) rfl rfl rfl rfl rfl rfl hl.1 (Nat.le_of_ble_eq_true rfl) dX8_anOperand_19 ⟨Nat.zero_le _, Nat.zero_le _⟩ (fun H locs hP hD hS => ?_)
      refine lv_if_eq (tgt := 214) hx hb dX8_anOperand_22 (by decide) (fun c43 => ?_) (fun c43 => ?_)
      · replace hM := if_t c43 hM
        cases hM
        exact rt_v hx hb hr hlk hP hD hS rfl dX8_anOperand_214
      · replace hM := if_f c43 hM
        refine lv_aload_n hx hb dX8_anOperand_25 rfl (lv_at hl 0 rfl) ?_
        refine lv_aload_n hx hb dX8_anOperand_26 rfl (lv_at hl 0 rfl) ?_
        refine va_get (D := D) (ci := 8) (v := .int r42.2.1.2.1) (C := RX8) (T := TX8) (N := 48) hx hb hts layX8 hown hK hP 0 rfl rfl 7 (by decide) (hts _ (inA q985)) (fun _ h9 => h9) rfl dX8_anOperand_27 ?_
        refine lv_bipush (v := 64) hx hb dX8_anOperand_30 (by decide) ?_
        refine lv_icmp_ne (tgt := 40) hx hb dX8_anOperand_32 (by decide) (fun c44 => ?_) (fun c44 => ?_)
        · replace hM := if_f c44 hM
          refine lv_bipush (v := 21) hx hb dX8_anOperand_40 (by decide) ?_
          refine lv_aload_n hx hb dX8_anOperand_42 rfl (lv_at hl 0 rfl) ?_
          refine va_get (D := D) (ci := 8) (v := .int r42.2.1.1) (C := RX8) (T := TX8) (N := 48) hx hb hts layX8 hown hK hP 0 rfl rfl 6 (by decide) (hts _ (inA q984)) (fun _ h9 => h9) rfl dX8_anOperand_43 ?_
          obtain ⟨r45, hcr45, hM⟩ := ob_use hM
          refine cl_V (As := [.int 21, .int r42.2.1.1]) (rest := []) (wM0 ad o_X r42.2.1 o_N o_T o_U r42.2.2 r45 o_Q o_V o_I ++ wMC cI ad o_C ++ wMX cI ad o_X ++ wMN cI ad o_N ++ wMT cI ad o_T ++ wMU cI ad o_U ++ wME cI ad r45) [] ⟨hx, hb, hml, hown, hts⟩ (c_Model_waitFor l D cI sd ad o_C o_X r42.2.1 o_N o_T o_U r42.2.2 o_Q o_V o_I o_E 21 r42.2.1.1 r45 hcr45) (cwV2 hts q1381 mvX8_waitFor rfl rfl ⟨(Nat.le_of_ble_eq_true rfl), (Nat.le_of_ble_eq_true rfl)⟩) hK hE hA hP hD hS 0 (T := TX8) (N := 48) (ci := 8) rfl rfl [0, 16, 17, 18, 19] rfl (by decide) rfl rfl rfl rfl rfl rfl hl.1 (Nat.le_of_ble_eq_true rfl) dX8_anOperand_46 ⟨Nat.zero_le _, Nat.zero_le _⟩ (fun H locs hP hD hS => ?_)
          refine lv_aload_n hx hb dX8_anOperand_49 rfl (lv_at hl 0 rfl) ?_
          refine lv_sipush (v := 135) hx hb dX8_anOperand_50 (by decide) ?_
          obtain ⟨r46, hcr46, hM⟩ := ob_use hM
          refine cl_V (As := [.int 135]) (rest := []) (wM0 ad o_X r42.2.1 o_N o_T r46 r42.2.2 r45 o_Q o_V o_I ++ wMC cI ad o_C ++ wMX cI ad o_X ++ wMN cI ad o_N ++ wMT cI ad o_T ++ wMU cI ad r46 ++ wME cI ad r45) [] ⟨hx, hb, hml, hown, hts⟩ (c_Model_push l D cI sd ad o_C o_X r42.2.1 o_N o_T r42.2.2 r45 o_Q o_V o_I o_U 135 r46 hcr46) (cwV2 hts q1147 mvX8_push rfl rfl ⟨(Nat.le_of_ble_eq_true rfl), (Nat.le_of_ble_eq_true rfl)⟩) hK hE hA hP hD hS 0 (T := TX8) (N := 48) (ci := 8) rfl rfl [0, 15] rfl (by decide) rfl rfl rfl rfl rfl rfl hl.1 (Nat.le_of_ble_eq_true rfl) dX8_anOperand_53 ⟨Nat.zero_le _, Nat.zero_le _⟩ (fun H locs hP hD hS => ?_)
          refine lv_aload_n hx hb dX8_anOperand_56 rfl (lv_at hl 0 rfl) ?_
          obtain ⟨r47, hcr47, hM⟩ := ob_use hM
          refine cl_V (As := []) (rest := []) (wM0 ad o_X r47.1 r47.2 o_T r46 r42.2.2 r45 o_Q o_V o_I ++ wMC cI ad o_C ++ wMX cI ad o_X ++ wMN cI ad r47.2 ++ wMT cI ad o_T ++ wMU cI ad r46 ++ wME cI ad r45) [] ⟨hx, hb, hml, hown, hts⟩ (c_Model_step l D cI sd ad o_T r46 r42.2.2 r45 o_Q o_V o_I o_C o_X r42.2.1 o_N r47 hcr47) (cwV2 hts q1151 mvX8_step rfl rfl ⟨(Nat.le_of_ble_eq_true rfl), (Nat.le_of_ble_eq_true rfl)⟩) hK hE hA hP hD hS 0 (T := TX8) (N := 48) (ci := 8) rfl rfl [0, 1, 2, 3, 4, 5, 6, 7] rfl (by decide) rfl rfl rfl rfl rfl rfl hl.1 (Nat.le_of_ble_eq_true rfl) dX8_anOperand_57 ⟨Nat.zero_le _, Nat.zero_le _⟩ (fun H locs hP hD hS => ?_)
          refine lv_goto (tgt := 214) hx hb dX8_anOperand_60 (by decide) ?_
          cases hM
          exact rt_v hx hb hr hlk hP hD hS rfl dX8_anOperand_214
        · replace hM := if_t c44 hM
          refine lv_bipush (v := 20) hx hb dX8_anOperand_35 (by decide) ?_
          refine lv_goto (tgt := 42) hx hb dX8_anOperand_37 (by decide) ?_
          refine lv_aload_n hx hb dX8_anOperand_42 rfl (lv_at hl 0 rfl) ?_
          refine va_get (D := D) (ci := 8) (v := .int r42.2.1.1) (C := RX8) (T := TX8) (N := 48) hx hb hts layX8 hown hK hP 0 rfl rfl 6 (by decide) (hts _ (inA q984)) (fun _ h9 => h9) rfl dX8_anOperand_43 ?_
          obtain ⟨r48, hcr48, hM⟩ := ob_use hM
          refine cl_V (As := [.int 20, .int r42.2.1.1]) (rest := []) (wM0 ad o_X r42.2.1 o_N o_T o_U r42.2.2 r48 o_Q o_V o_I ++ wMC cI ad o_C ++ wMX cI ad o_X ++ wMN cI ad o_N ++ wMT cI ad o_T ++ wMU cI ad o_U ++ wME cI ad r48) [] ⟨hx, hb, hml, hown, hts⟩ (c_Model_waitFor l D cI sd ad o_C o_X r42.2.1 o_N o_T o_U r42.2.2 o_Q o_V o_I o_E 20 r42.2.1.1 r48 hcr48) (cwV2 hts q1381 mvX8_waitFor rfl rfl ⟨(Nat.le_of_ble_eq_true rfl), (Nat.le_of_ble_eq_true rfl)⟩) hK hE hA hP hD hS 0 (T := TX8) (N := 48) (ci := 8) rfl rfl [0, 16, 17, 18, 19] rfl (by decide) rfl rfl rfl rfl rfl rfl hl.1 (Nat.le_of_ble_eq_true rfl) dX8_anOperand_46 ⟨Nat.zero_le _, Nat.zero_le _⟩ (fun H locs hP hD hS => ?_)
          refine lv_aload_n hx hb dX8_anOperand_49 rfl (lv_at hl 0 rfl) ?_
          refine lv_sipush (v := 135) hx hb dX8_anOperand_50 (by decide) ?_
          obtain ⟨r49, hcr49, hM⟩ := ob_use hM
          refine cl_V (As := [.int 135]) (rest := []) (wM0 ad o_X r42.2.1 o_N o_T r49 r42.2.2 r48 o_Q o_V o_I ++ wMC cI ad o_C ++ wMX cI ad o_X ++ wMN cI ad o_N ++ wMT cI ad o_T ++ wMU cI ad r49 ++ wME cI ad r48) [] ⟨hx, hb, hml, hown, hts⟩ (c_Model_push l D cI sd ad o_C o_X r42.2.1 o_N o_T r42.2.2 r48 o_Q o_V o_I o_U 135 r49 hcr49) (cwV2 hts q1147 mvX8_push rfl rfl ⟨(Nat.le_of_ble_eq_true rfl), (Nat.le_of_ble_eq_true rfl)⟩) hK hE hA hP hD hS 0 (T := TX8) (N := 48) (ci := 8) rfl rfl [0, 15] rfl (by decide) rfl rfl rfl rfl rfl rfl hl.1 (Nat.le_of_ble_eq_true rfl) dX8_anOperand_53 ⟨Nat.zero_le _, Nat.zero_le _⟩ (fun H locs hP hD hS => ?_)
          refine lv_aload_n hx hb dX8_anOperand_56 rfl (lv_at hl 0 rfl) ?_
          obtain ⟨r50, hcr50, hM⟩ := ob_use hM
          refine cl_V (As := []) (rest := []) (wM0 ad o_X r50.1 r50.2 o_T r49 r42.2.2 r48 o_Q o_V o_I ++ wMC cI ad o_C ++ wMX cI ad o_X ++ wMN cI ad r50.2 ++ wMT cI ad o_T ++ wMU cI ad r49 ++ wME cI ad r48) [] ⟨hx, hb, hml, hown, hts⟩ (c_Model_step l D cI sd ad o_T r49 r42.2.2 r48 o_Q o_V o_I o_C o_X r42.2.1 o_N r50 hcr50) (cwV2 hts q1151 mvX8_step rfl rfl ⟨(Nat.le_of_ble_eq_true rfl), (Nat.le_of_ble_eq_true rfl)⟩) hK hE hA hP hD hS 0 (T := TX8) (N := 48) (ci := 8) rfl rfl [0, 1, 2, 3, 4, 5, 6, 7] rfl (by decide) rfl rfl rfl rfl rfl rfl hl.1 (Nat.le_of_ble_eq_true rfl) dX8_anOperand_57 ⟨Nat.zero_le _, Nat.zero_le _⟩ (fun H locs hP hD hS => ?_)
          refine lv_goto (tgt := 214) hx hb dX8_anOperand_60 (by decide) ?_
          cases hM
          exact rt_v hx hb hr hlk hP hD hS rfl dX8_anOperand_214

set_option maxHeartbeats 4000000 in
set_option maxRecDepth 100000 in
theorem c_Model_groupEnd (l : Launch) (D : va_G) (cI : ClassId) (sd : Nat → Nat) (ad : Nat → Nat) (o_U : S_MU) (o_Q : S_MQ) (o_V : S_MV) (o_I : S_MI) (o_C : S_MC) (o_X : S_MX) (o_L : S_ML) (o_N : S_MN) (o_T : S_MT) (o_O : S_MO) (o_E : S_ME) (res : S_ML × S_MN × S_MT × S_MO × S_ME) (hM : f_Model_groupEnd o_C o_X o_L o_N o_T o_O o_E = some res) : Ctr l D cI sd yX8_groupEnd (wsM yX8_groupEnd cX8_groupEnd 1 (Option.none : Option Jvm.ClassFile.FieldType)) { frames := 6, cells := 0, slots := 0, locals := 133 } [.ref (ad 100)] (wM0 ad o_X o_L o_N o_T o_U o_O o_E o_Q o_V o_I ++ wMC cI ad o_C ++ wMX cI ad o_X ++ wMN cI ad o_N ++ wMT cI ad o_T ++ wME cI ad o_E) (wM0 ad o_X res.1 res.2.1 res.2.2.1 o_U res.2.2.2.1 res.2.2.2.2 o_Q o_V o_I ++ wMC cI ad o_C ++ wMX cI ad o_X ++ wMN cI ad res.2.1 ++ wMT cI ad res.2.2.1 ++ wME cI ad res.2.2.2.2) none := by
  refine Ctr.of (cc := cX8_groupEnd) (maxL := 1) (own := RX8) (by decide +kernel) rfl rfl (Nat.le_of_ble_eq_true rfl) ?_
  intro p e s m below meth c A ls hx hb hr hml hown hts hlk hK hE hA hP hD hS hl
  have hl : lv_has ls 1 [(0, .ref (ad 100))] := hl
  unfold f_Model_groupEnd at hM
  refine lv_aload_n hx hb dX8_groupEnd_0 rfl (lv_at hl 0 rfl) ?_
  refine lv_dup hx hb dX8_groupEnd_1 rfl ?_
  refine va_get (D := D) (ci := 8) (v := .int o_O.1) (C := RX8) (T := TX8) (N := 48) hx hb hts layX8 hown hK hP 0 rfl rfl 27 (by decide) (hts _ (inA q1005)) (fun _ h9 => h9) rfl dX8_groupEnd_2 ?_
  refine lv_iconst (v := 1) hx hb dX8_groupEnd_5 (by decide) ?_
  refine lv_isub hx hb dX8_groupEnd_6 ?_
  refine va_put (D := D) (ci := 8) (v := .int (o_O.1 - 1)) (ty := .int) (C := RX8) (T := TX8) (N := 48) hx hb hts layX8 tyX8 tyX8_ok nmX8 hown hK hP hD hS 0 rfl rfl 27 (by decide) (hts _ (inA q1005)) (fun _ h9 => h9) rfl (by decide +kernel) rfl rfl (Nat.le_of_ble_eq_true rfl) dX8_groupEnd_7 (fun H locs hP hD hS => ?_)
  have hP : va_P D vwCl (wM0 ad o_X o_L o_N o_T o_U (o_O.1 - 1, o_O.2) o_E o_Q o_V o_I ++ wMC cI ad o_C ++ wMX cI ad o_X ++ wMN cI ad o_N ++ wMT cI ad o_T ++ wME cI ad o_E) H := hP
  have hD : va_D A (wM0 ad o_X o_L o_N o_T o_U (o_O.1 - 1, o_O.2) o_E o_Q o_V o_I ++ wMC cI ad o_C ++ wMX cI ad o_X ++ wMN cI ad o_N ++ wMT cI ad o_T ++ wME cI ad o_E) := hD
  refine lv_aload_n hx hb dX8_groupEnd_10 rfl (lv_at hl 0 rfl) ?_
  refine lv_aload_n hx hb dX8_groupEnd_11 rfl (lv_at hl 0 rfl) ?_
  obtain ⟨r1, hcr1, hM⟩ := ob_use hM
  refine cl_V (As := []) (rest := [.ref (ad 100)]) (wM0 ad o_X o_L o_N o_T o_U (o_O.1 - 1, o_O.2) r1.2 o_Q o_V o_I ++ wMC cI ad o_C ++ wMX cI ad o_X ++ wMN cI ad o_N ++ wMT cI ad o_T ++ wME cI ad r1.2) (.int r1.1 :: [.ref (ad 100)]) ⟨hx, hb, hml, hown, hts⟩ (c_Model_takeOperand l D cI sd ad o_C o_X o_L o_N o_T o_U (o_O.1 - 1, o_O.2) o_Q o_V o_I o_E r1 hcr1) (cwV2 hts q1401 mvX8_takeOperand rfl rfl ⟨(Nat.le_of_ble_eq_true rfl), (Nat.le_of_ble_eq_true rfl)⟩) hK hE hA hP hD hS 0 (T := TX8) (N := 48) (ci := 8) rfl rfl [0, 15, 16, 17, 18] rfl (by decide) rfl rfl rfl rfl rfl rfl hl.1 (Nat.le_of_ble_eq_true rfl) dX8_groupEnd_12 ⟨Nat.zero_le _, Nat.zero_le _⟩ (fun H locs hP hD hS => ?_)
  obtain ⟨r2, hcr2, hM⟩ := ob_use hM
  refine cl_V (As := [.int r1.1]) (rest := []) (wM0 ad o_X o_L o_N r2.1 o_U r2.2.1 r2.2.2 o_Q o_V o_I ++ wMC cI ad o_C ++ wMX cI ad o_X ++ wMN cI ad o_N ++ wMT cI ad r2.1 ++ wME cI ad r2.2.2) [] ⟨hx, hb, hml, hown, hts⟩ (c_Model_operandCame l D cI sd ad o_C o_X o_L o_N o_U o_Q o_V o_I o_T (o_O.1 - 1, o_O.2) r1.2 r1.1 r2 hcr2) (cwV2 hts q1389 mvX8_operandCame rfl rfl ⟨(Nat.le_of_ble_eq_true rfl), (Nat.le_of_ble_eq_true rfl)⟩) hK hE hA hP hD hS 0 (T := TX8) (N := 48) (ci := 8) rfl rfl [0, 8, 9, 10, 11, 12, 13, 14, 15, 16, 17, 18] rfl (by decide) rfl rfl rfl rfl rfl rfl hl.1 (Nat.le_of_ble_eq_true rfl) dX8_groupEnd_15 ⟨Nat.zero_le _, Nat.zero_le _⟩ (fun H locs hP hD hS => ?_)
  refine lv_aload_n hx hb dX8_groupEnd_18 rfl (lv_at hl 0 rfl) ?_
  refine lv_bipush (v := 56) hx hb dX8_groupEnd_19 (by decide) ?_
  obtain ⟨r3, hcr3, hM⟩ := ob_use hM
  refine cl_V (As := [.int 56]) (rest := []) (wM0 ad o_X r3.1 r3.2 r2.1 o_U r2.2.1 r2.2.2 o_Q o_V o_I ++ wMC cI ad o_C ++ wMX cI ad o_X ++ wMN cI ad r3.2 ++ wMT cI ad r2.1 ++ wME cI ad r2.2.2) [] ⟨hx, hb, hml, hown, hts⟩ (c_Model_pass l D cI sd ad r2.1 o_U r2.2.1 r2.2.2 o_Q o_V o_I o_C o_X o_L o_N 56 r3 hcr3) (cwV2 hts q1229 mvX8_pass rfl rfl ⟨(Nat.le_of_ble_eq_true rfl), (Nat.le_of_ble_eq_true rfl)⟩) hK hE hA hP hD hS 0 (T := TX8) (N := 48) (ci := 8) rfl rfl [0, 1, 2, 3, 4, 5, 6, 7] rfl (by decide) rfl rfl rfl rfl rfl rfl hl.1 (Nat.le_of_ble_eq_true rfl) dX8_groupEnd_21 ⟨Nat.zero_le _, Nat.zero_le _⟩ (fun H locs hP hD hS => ?_)
  cases hM
  exact rt_v hx hb hr hlk hP hD hS rfl dX8_groupEnd_24

set_option maxHeartbeats 4000000 in
set_option maxRecDepth 100000 in
theorem c_Model_start (l : Launch) (D : va_G) (cI : ClassId) (sd : Nat → Nat) (ad : Nat → Nat) (o_C : S_MC) (o_X : S_MX) (o_L : S_ML) (o_N : S_MN) (o_U : S_MU) (o_Q : S_MQ) (o_V : S_MV) (o_I : S_MI) (o_T : S_MT) (o_O : S_MO) (o_E : S_ME) (a1 : Int32) (res : S_MT × S_ME) (hM : f_Model_start o_T o_O o_E a1 = some res) : Ctr l D cI sd yX8_start (wsM yX8_start cX8_start 2 (Option.none : Option Jvm.ClassFile.FieldType)) { frames := 1, cells := 0, slots := 0, locals := 23 } [.ref (ad 100), .int a1] (wM0 ad o_X o_L o_N o_T o_U o_O o_E o_Q o_V o_I ++ wMT cI ad o_T ++ wME cI ad o_E) (wM0 ad o_X o_L o_N res.1 o_U o_O res.2 o_Q o_V o_I ++ wMT cI ad res.1 ++ wME cI ad res.2) none := by
  refine Ctr.of (cc := cX8_start) (maxL := 2) (own := RX8) (by decide +kernel) rfl rfl (Nat.le_of_ble_eq_true rfl) ?_
  intro p e s m below meth c A ls hx hb hr hml hown hts hlk hK hE hA hP hD hS hl
  have hl : lv_has ls 2 [(0, .ref (ad 100)), (1, .int a1)] := hl
  unfold f_Model_start at hM
  refine lv_aload_n hx hb dX8_start_0 rfl (lv_at hl 0 rfl) ?_
  refine va_get (D := D) (ci := 8) (v := .ref (ad 119)) (C := RX8) (T := TX8) (N := 48) hx hb hts layX8 hown hK hP 0 rfl rfl 39 (by decide) (hts _ (inA q1017)) (fun _ h9 => h9) rfl dX8_start_1 ?_
  refine lv_aload_n hx hb dX8_start_4 rfl (lv_at hl 0 rfl) ?_
  refine va_get (D := D) (ci := 8) (v := .int o_E.2.2.1) (C := RX8) (T := TX8) (N := 48) hx hb hts layX8 hown hK hP 0 rfl rfl 38 (by decide) (hts _ (inA q1016)) (fun _ h9 => h9) rfl dX8_start_5 ?_
  refine lv_aload_n hx hb dX8_start_8 rfl (lv_at hl 0 rfl) ?_
  refine lv_iload_n hx hb dX8_start_9 rfl (lv_at hl 1 rfl) ?_
  refine lv_aload_n hx hb dX8_start_10 rfl (lv_at hl 0 rfl) ?_
  refine va_get (D := D) (ci := 8) (v := .int o_O.2.2.2.1) (C := RX8) (T := TX8) (N := 48) hx hb hts layX8 hown hK hP 0 rfl rfl 30 (by decide) (hts _ (inA q1008)) (fun _ h9 => h9) rfl dX8_start_11 ?_
  refine lv_aload_n hx hb dX8_start_14 rfl (lv_at hl 0 rfl) ?_
  refine va_get (D := D) (ci := 8) (v := .int o_O.2.2.2.2.1) (C := RX8) (T := TX8) (N := 48) hx hb hts layX8 hown hK hP 0 rfl rfl 31 (by decide) (hts _ (inA q1009)) (fun _ h9 => h9) rfl dX8_start_15 ?_
  obtain ⟨r1, hcr1, hM⟩ := ob_use hM
  refine cl_V (As := [.int a1, .int o_O.2.2.2.1, .int o_O.2.2.2.2.1]) (rest := [.int o_E.2.2.1, .ref (ad 119)]) (wM0 ad o_X o_L o_N r1.2 o_U o_O o_E o_Q o_V o_I ++ wMT cI ad r1.2 ++ wME cI ad o_E) (.int r1.1 :: [.int o_E.2.2.1, .ref (ad 119)]) ⟨hx, hb, hml, hown, hts⟩ (c_Model_make l D cI sd ad o_C o_X o_L o_N o_U o_O o_E o_Q o_V o_I o_T a1 o_O.2.2.2.1 o_O.2.2.2.2.1 r1 hcr1) (cwV2 hts q1143 mvX8_make rfl rfl ⟨(Nat.le_of_ble_eq_true rfl), (Nat.le_of_ble_eq_true rfl)⟩) hK hE hA hP hD hS 0 (T := TX8) (N := 48) (ci := 8) rfl rfl [0, 1, 2, 3, 4, 5, 6, 7] rfl (by decide) rfl rfl rfl rfl rfl rfl hl.1 (Nat.le_of_ble_eq_true rfl) dX8_start_18 ⟨Nat.zero_le _, Nat.zero_le _⟩ (fun H locs hP hD hS => ?_)
  obtain ⟨b2, hM⟩ := gd_use hM
  refine va_iast hx hb hK hP hD hS 11 0 rfl rfl b2 dX8_start_21 (fun H locs hP hD hS => ?_)
  have hP : va_P D vwCl (wM0 ad o_X o_L o_N r1.2 o_U o_O (o_E.1, o_E.2.1, o_E.2.2.1, o_E.2.2.2.1, o_E.2.2.2.2.1, o_E.2.2.2.2.2.1, upd o_E.2.2.2.2.2.2 o_E.2.2.1.toNatClampNeg r1.1) o_Q o_V o_I ++ wMT cI ad r1.2 ++ wME cI ad (o_E.1, o_E.2.1, o_E.2.2.1, o_E.2.2.2.1, o_E.2.2.2.2.1, o_E.2.2.2.2.2.1, upd o_E.2.2.2.2.2.2 o_E.2.2.1.toNatClampNeg r1.1)) H := hP
  have hD : va_D A (wM0 ad o_X o_L o_N r1.2 o_U o_O (o_E.1, o_E.2.1, o_E.2.2.1, o_E.2.2.2.1, o_E.2.2.2.2.1, o_E.2.2.2.2.2.1, upd o_E.2.2.2.2.2.2 o_E.2.2.1.toNatClampNeg r1.1) o_Q o_V o_I ++ wMT cI ad r1.2 ++ wME cI ad (o_E.1, o_E.2.1, o_E.2.2.1, o_E.2.2.2.1, o_E.2.2.2.2.1, o_E.2.2.2.2.2.1, upd o_E.2.2.2.2.2.2 o_E.2.2.1.toNatClampNeg r1.1)) := hD
  refine lv_aload_n hx hb dX8_start_22 rfl (lv_at hl 0 rfl) ?_
  refine lv_dup hx hb dX8_start_23 rfl ?_
  refine va_get (D := D) (ci := 8) (v := .int o_E.2.2.1) (C := RX8) (T := TX8) (N := 48) hx hb hts layX8 hown hK hP 0 rfl rfl 38 (by decide) (hts _ (inA q1016)) (fun _ h9 => h9) rfl dX8_start_24 ?_
  refine lv_iconst (v := 1) hx hb dX8_start_27 (by decide) ?_
  refine lv_iadd hx hb dX8_start_28 ?_
  refine va_put (D := D) (ci := 8) (v := .int (o_E.2.2.1 + 1)) (ty := .int) (C := RX8) (T := TX8) (N := 48) hx hb hts layX8 tyX8 tyX8_ok nmX8 hown hK hP hD hS 0 rfl rfl 38 (by decide) (hts _ (inA q1016)) (fun _ h9 => h9) rfl (by decide +kernel) rfl rfl (Nat.le_of_ble_eq_true rfl) dX8_start_29 (fun H locs hP hD hS => ?_)
  have hP : va_P D vwCl (wM0 ad o_X o_L o_N r1.2 o_U o_O (o_E.1, o_E.2.1, o_E.2.2.1 + 1, o_E.2.2.2.1, o_E.2.2.2.2.1, o_E.2.2.2.2.2.1, upd o_E.2.2.2.2.2.2 o_E.2.2.1.toNatClampNeg r1.1) o_Q o_V o_I ++ wMT cI ad r1.2 ++ wME cI ad (o_E.1, o_E.2.1, o_E.2.2.1 + 1, o_E.2.2.2.1, o_E.2.2.2.2.1, o_E.2.2.2.2.2.1, upd o_E.2.2.2.2.2.2 o_E.2.2.1.toNatClampNeg r1.1)) H := hP
  have hD : va_D A (wM0 ad o_X o_L o_N r1.2 o_U o_O (o_E.1, o_E.2.1, o_E.2.2.1 + 1, o_E.2.2.2.1, o_E.2.2.2.2.1, o_E.2.2.2.2.2.1, upd o_E.2.2.2.2.2.2 o_E.2.2.1.toNatClampNeg r1.1) o_Q o_V o_I ++ wMT cI ad r1.2 ++ wME cI ad (o_E.1, o_E.2.1, o_E.2.2.1 + 1, o_E.2.2.2.1, o_E.2.2.2.2.1, o_E.2.2.2.2.2.1, upd o_E.2.2.2.2.2.2 o_E.2.2.1.toNatClampNeg r1.1)) := hD
  cases hM
  exact rt_v hx hb hr hlk hP hD hS rfl dX8_start_32

set_option maxHeartbeats 4000000 in
set_option maxRecDepth 100000 in
theorem c_Model_behindOperand (l : Launch) (D : va_G) (cI : ClassId) (sd : Nat → Nat) (ad : Nat → Nat) (o_Q : S_MQ) (o_V : S_MV) (o_I : S_MI) (o_C : S_MC) (o_X : S_MX) (o_L : S_ML) (o_N : S_MN) (o_T : S_MT) (o_U : S_MU) (o_O : S_MO) (o_E : S_ME) (res : S_ML × S_MN × S_MT × S_MU × S_MO × S_ME) (hM : f_Model_behindOperand o_C o_X o_L o_N o_T o_U o_O o_E = some res) : Ctr l D cI sd yX8_behindOperand (wsM yX8_behindOperand cX8_behindOperand 1 (Option.none : Option Jvm.ClassFile.FieldType)) { frames := 5, cells := 0, slots := 0, locals := 112 } [.ref (ad 100)] (wM0 ad o_X o_L o_N o_T o_U o_O o_E o_Q o_V o_I ++ wMC cI ad o_C ++ wMX cI ad o_X ++ wMN cI ad o_N ++ wMT cI ad o_T ++ wMU cI ad o_U ++ wME cI ad o_E) (wM0 ad o_X res.1 res.2.1 res.2.2.1 res.2.2.2.1 res.2.2.2.2.1 res.2.2.2.2.2 o_Q o_V o_I ++ wMC cI ad o_C ++ wMX cI ad o_X ++ wMN cI ad res.2.1 ++ wMT cI ad res.2.2.1 ++ wMU cI ad res.2.2.2.1 ++ wME cI ad res.2.2.2.2.2) none := by
  refine Ctr.of (cc := cX8_behindOperand) (maxL := 1) (own := RX8) (by decide +kernel) rfl rfl (Nat.le_of_ble_eq_true rfl) ?_
  intro p e s m below meth c A ls hx hb hr hml hown hts hlk hK hE hA hP hD hS hl
  have hl : lv_has ls 1 [(0, .ref (ad 100))] := hl
  unfold f_Model_behindOperand at hM
  refine lv_aload_n hx hb dX8_behindOperand_0 rfl (lv_at hl 0 rfl) ?_
  refine va_get (D := D) (ci := 8) (v := .int o_L.2.1) (C := RX8) (T := TX8) (N := 48) hx hb hts layX8 hown hK hP 0 rfl rfl 7 (by decide) (hts _ (inA q985)) (fun _ h9 => h9) rfl dX8_behindOperand_1 ?_
  refine lv_bipush (v := 57) hx hb dX8_behindOperand_4 (by decide) ?_
  refine lv_icmp_ne (tgt := 39) hx hb dX8_behindOperand_6 (by decide) (fun c1 => ?_) (fun c1 => ?_)
  · replace hM := if_f c1 hM
    refine lv_aload_n hx hb dX8_behindOperand_39 rfl (lv_at hl 0 rfl) ?_
    refine va_get (D := D) (ci := 8) (v := .int o_L.2.1) (C := RX8) (T := TX8) (N := 48) hx hb hts layX8 hown hK hP 0 rfl rfl 7 (by decide) (hts _ (inA q985)) (fun _ h9 => h9) rfl dX8_behindOperand_40 ?_
    refine lv_bipush (v := 62) hx hb dX8_behindOperand_43 (by decide) ?_
    refine lv_icmp_ne (tgt := 68) hx hb dX8_behindOperand_45 (by decide) (fun c2 => ?_) (fun c2 => ?_)
    · replace hM := if_f c2 hM
      refine lv_aload_n hx hb dX8_behindOperand_68 rfl (lv_at hl 0 rfl) ?_
      refine va_get (D := D) (ci := 8) (v := .int o_L.2.1) (C := RX8) (T := TX8) (N := 48) hx hb hts layX8 hown hK hP 0 rfl rfl 7 (by decide) (hts _ (inA q985)) (fun _ h9 => h9) rfl dX8_behindOperand_69 ?_
      refine lv_bipush (v := 55) hx hb dX8_behindOperand_72 (by decide) ?_
      refine lv_icmp_ne (tgt := 107) hx hb dX8_behindOperand_74 (by decide) (fun c3 => ?_) (fun c3 => ?_)
      · replace hM := if_f c3 hM
        refine lv_aload_n hx hb dX8_behindOperand_107 rfl (lv_at hl 0 rfl) ?_
        refine lv_aload_n hx hb dX8_behindOperand_108 rfl (lv_at hl 0 rfl) ?_
        refine lv_bipush (v := 6) hx hb dX8_behindOperand_109 (by decide) ?_
        refine lv_aload_n hx hb dX8_behindOperand_111 rfl (lv_at hl 0 rfl) ?_
        refine va_get (D := D) (ci := 8) (v := .int o_O.2.2.2.1) (C := RX8) (T := TX8) (N := 48) hx hb hts layX8 hown hK hP 0 rfl rfl 30 (by decide) (hts _ (inA q1008)) (fun _ h9 => h9) rfl dX8_behindOperand_112 ?_
        refine lv_aload_n hx hb dX8_behindOperand_115 rfl (lv_at hl 0 rfl) ?_
        refine va_get (D := D) (ci := 8) (v := .int o_O.2.2.2.2.1) (C := RX8) (T := TX8) (N := 48) hx hb hts layX8 hown hK hP 0 rfl rfl 31 (by decide) (hts _ (inA q1009)) (fun _ h9 => h9) rfl dX8_behindOperand_116 ?_
        obtain ⟨r4, hcr4, hM⟩ := ob_use hM
        refine cl_V (As := [.int 6, .int o_O.2.2.2.1, .int o_O.2.2.2.2.1]) (rest := [.ref (ad 100)]) (wM0 ad o_X o_L o_N r4.2 o_U o_O o_E o_Q o_V o_I ++ wMC cI ad o_C ++ wMX cI ad o_X ++ wMN cI ad o_N ++ wMT cI ad r4.2 ++ wMU cI ad o_U ++ wME cI ad o_E) (.int r4.1 :: [.ref (ad 100)]) ⟨hx, hb, hml, hown, hts⟩ (c_Model_make l D cI sd ad o_C o_X o_L o_N o_U o_O o_E o_Q o_V o_I o_T 6 o_O.2.2.2.1 o_O.2.2.2.2.1 r4 hcr4) (cwV2 hts q1143 mvX8_make rfl rfl ⟨(Nat.le_of_ble_eq_true rfl), (Nat.le_of_ble_eq_true rfl)⟩) hK hE hA hP hD hS 0 (T := TX8) (N := 48) (ci := 8) rfl rfl [0, 8, 9, 10, 11, 12, 13, 14] rfl (by decide) rfl rfl rfl rfl rfl rfl hl.1 (Nat.le_of_ble_eq_true rfl) dX8_behindOperand_119 ⟨Nat.zero_le _, Nat.zero_le _⟩ (fun H locs hP hD hS => ?_)
        obtain ⟨r5, hcr5, hM⟩ := ob_use hM
        refine cl_V (As := [.int r4.1]) (rest := []) (wM0 ad o_X o_L o_N r5.1 o_U r5.2.1 r5.2.2 o_Q o_V o_I ++ wMC cI ad o_C ++ wMX cI ad o_X ++ wMN cI ad o_N ++ wMT cI ad r5.1 ++ wMU cI ad o_U ++ wME cI ad r5.2.2) [] ⟨hx, hb, hml, hown, hts⟩ (c_Model_operandCame l D cI sd ad o_C o_X o_L o_N o_U o_Q o_V o_I r4.2 o_O o_E r4.1 r5 hcr5) (cwV2 hts q1389 mvX8_operandCame rfl rfl ⟨(Nat.le_of_ble_eq_true rfl), (Nat.le_of_ble_eq_true rfl)⟩) hK hE hA hP hD hS 0 (T := TX8) (N := 48) (ci := 8) rfl rfl [0, 8, 9, 10, 11, 12, 13, 14, 16, 17, 18, 19] rfl (by decide) rfl rfl rfl rfl rfl rfl hl.1 (Nat.le_of_ble_eq_true rfl) dX8_behindOperand_122 ⟨Nat.zero_le _, Nat.zero_le _⟩ (fun H locs hP hD hS => ?_)
        cases hM
        exact rt_v hx hb hr hlk hP hD hS rfl dX8_behindOperand_125
      · replace hM := if_t c3 hM
        refine lv_aload_n hx hb dX8_behindOperand_77 rfl (lv_at hl 0 rfl) ?_
        obtain ⟨r6, hcr6, hM⟩ := ob_use hM
        refine cl_V (As := []) (rest := []) (wM0 ad o_X r6.2.1 o_N o_T o_U r6.2.2 o_E o_Q o_V o_I ++ wMC cI ad o_C ++ wMX cI ad o_X ++ wMN cI ad o_N ++ wMT cI ad o_T ++ wMU cI ad o_U ++ wME cI ad o_E) (.int r6.1 :: []) ⟨hx, hb, hml, hown, hts⟩ (c_Model_opens l D cI sd ad o_C o_X o_N o_T o_U o_E o_Q o_V o_I o_L o_O r6 hcr6) (cwV2 hts q1321 mvX8_opens rfl rfl ⟨(Nat.le_of_ble_eq_true rfl), (Nat.le_of_ble_eq_true rfl)⟩) hK hE hA hP hD hS 0 (T := TX8) (N := 48) (ci := 8) rfl rfl [0] rfl (by decide) rfl rfl rfl rfl rfl rfl hl.1 (Nat.le_of_ble_eq_true rfl) dX8_behindOperand_78 ⟨Nat.zero_le _, Nat.zero_le _⟩ (fun H locs hP hD hS => ?_)
        refine lv_if_eq (tgt := 125) hx hb dX8_behindOperand_81 (by decide) (fun c7 => ?_) (fun c7 => ?_)
        · replace hM := if_t c7 hM
          cases hM
          exact rt_v hx hb hr hlk hP hD hS rfl dX8_behindOperand_125
        · replace hM := if_f c7 hM
          refine lv_aload_n hx hb dX8_behindOperand_84 rfl (lv_at hl 0 rfl) ?_
          refine lv_bipush (v := 34) hx hb dX8_behindOperand_85 (by decide) ?_
          obtain ⟨r8, hcr8, hM⟩ := ob_use hM
          refine cl_V (As := [.int 34]) (rest := []) (wM0 ad o_X r6.2.1 o_N r8.1 o_U r6.2.2 r8.2 o_Q o_V o_I ++ wMC cI ad o_C ++ wMX cI ad o_X ++ wMN cI ad o_N ++ wMT cI ad r8.1 ++ wMU cI ad o_U ++ wME cI ad r8.2) [] ⟨hx, hb, hml, hown, hts⟩ (c_Model_start l D cI sd ad o_C o_X r6.2.1 o_N o_U o_Q o_V o_I o_T r6.2.2 o_E 34 r8 hcr8) (cwV2 hts q1424 mvX8_start rfl rfl ⟨(Nat.le_of_ble_eq_true rfl), (Nat.le_of_ble_eq_true rfl)⟩) hK hE hA hP hD hS 0 (T := TX8) (N := 48) (ci := 8) rfl rfl [0, 8, 9, 10, 11, 12, 13, 14, 16, 17, 18, 19] rfl (by decide) rfl rfl rfl rfl rfl rfl hl.1 (Nat.le_of_ble_eq_true rfl) dX8_behindOperand_87 ⟨Nat.zero_le _, Nat.zero_le _⟩ (fun H locs hP hD hS => ?_)
          refine lv_aload_n hx hb dX8_behindOperand_90 rfl (lv_at hl 0 rfl) ?_
          refine lv_sipush (v := 143) hx hb dX8_behindOperand_91 (by decide) ?_
          refine lv_sipush (v := 142) hx hb dX8_behindOperand_94 (by decide) ?_
          obtain ⟨r9, hcr9, hM⟩ := ob_use hM
          refine cl_V (As := [.int 143, .int 142]) (rest := []) (wM0 ad o_X r6.2.1 o_N r8.1 r9 r6.2.2 r8.2 o_Q o_V o_I ++ wMC cI ad o_C ++ wMX cI ad o_X ++ wMN cI ad o_N ++ wMT cI ad r8.1 ++ wMU cI ad r9 ++ wME cI ad r8.2) [] ⟨hx, hb, hml, hown, hts⟩ (c_Model_push2 l D cI sd ad o_C o_X r6.2.1 o_N r8.1 r6.2.2 r8.2 o_Q o_V o_I o_U 143 142 r9 hcr9) (cwV2 hts q1257 mvX8_push2 rfl rfl ⟨(Nat.le_of_ble_eq_true rfl), (Nat.le_of_ble_eq_true rfl)⟩) hK hE hA hP hD hS 0 (T := TX8) (N := 48) (ci := 8) rfl rfl [0, 15] rfl (by decide) rfl rfl rfl rfl rfl rfl hl.1 (Nat.le_of_ble_eq_true rfl) dX8_behindOperand_97 ⟨Nat.zero_le _, Nat.zero_le _⟩ (fun H locs hP hD hS => ?_)
          refine lv_aload_n hx hb dX8_behindOperand_100 rfl (lv_at hl 0 rfl) ?_
          obtain ⟨r10, hcr10, hM⟩ := ob_use hM
          refine cl_V (As := []) (rest := []) (wM0 ad o_X r10.1 r10.2 r8.1 r9 r6.2.2 r8.2 o_Q o_V o_I ++ wMC cI ad o_C ++ wMX cI ad o_X ++ wMN cI ad r10.2 ++ wMT cI ad r8.1 ++ wMU cI ad r9 ++ wME cI ad r8.2) [] ⟨hx, hb, hml, hown, hts⟩ (c_Model_step l D cI sd ad r8.1 r9 r6.2.2 r8.2 o_Q o_V o_I o_C o_X r6.2.1 o_N r10 hcr10) (cwV2 hts q1151 mvX8_step rfl rfl ⟨(Nat.le_of_ble_eq_true rfl), (Nat.le_of_ble_eq_true rfl)⟩) hK hE hA hP hD hS 0 (T := TX8) (N := 48) (ci := 8) rfl rfl [0, 1, 2, 3, 4, 5, 6, 7] rfl (by decide) rfl rfl rfl rfl rfl rfl hl.1 (Nat.le_of_ble_eq_true rfl) dX8_behindOperand_101 ⟨Nat.zero_le _, Nat.zero_le _⟩ (fun H locs hP hD hS => ?_)
          refine lv_goto (tgt := 125) hx hb dX8_behindOperand_104 (by decide) ?_
          cases hM
          exact rt_v hx hb hr hlk hP hD hS rfl dX8_behindOperand_125
    · replace hM := if_t c2 hM
      refine lv_aload_n hx hb dX8_behindOperand_48 rfl (lv_at hl 0 rfl) ?_
      refine lv_bipush (v := 33) hx hb dX8_behindOperand_49 (by decide) ?_
      obtain ⟨r11, hcr11, hM⟩ := ob_use hM
      refine cl_V (As := [.int 33]) (rest := []) (wM0 ad o_X o_L o_N r11.1 o_U o_O r11.2 o_Q o_V o_I ++ wMC cI ad o_C ++ wMX cI ad o_X ++ wMN cI ad o_N ++ wMT cI ad r11.1 ++ wMU cI ad o_U ++ wME cI ad r11.2) [] ⟨hx, hb, hml, hown, hts⟩ (c_Model_start l D cI sd ad o_C o_X o_L o_N o_U o_Q o_V o_I o_T o_O o_E 33 r11 hcr11) (cwV2 hts q1424 mvX8_start rfl rfl ⟨(Nat.le_of_ble_eq_true rfl), (Nat.le_of_ble_eq_true rfl)⟩) hK hE hA hP hD hS 0 (T := TX8) (N := 48) (ci := 8) rfl rfl [0, 8, 9, 10, 11, 12, 13, 14, 16, 17, 18, 19] rfl (by decide) rfl rfl rfl rfl rfl rfl hl.1 (Nat.le_of_ble_eq_true rfl) dX8_behindOperand_51 ⟨Nat.zero_le _, Nat.zero_le _⟩ (fun H locs hP hD hS => ?_)
      refine lv_aload_n hx hb dX8_behindOperand_54 rfl (lv_at hl 0 rfl) ?_
      refine lv_sipush (v := 141) hx hb dX8_behindOperand_55 (by decide) ?_
      obtain ⟨r12, hcr12, hM⟩ := ob_use hM
      refine cl_V (As := [.int 141]) (rest := []) (wM0 ad o_X o_L o_N r11.1 r12 o_O r11.2 o_Q o_V o_I ++ wMC cI ad o_C ++ wMX cI ad o_X ++ wMN cI ad o_N ++ wMT cI ad r11.1 ++ wMU cI ad r12 ++ wME cI ad r11.2) [] ⟨hx, hb, hml, hown, hts⟩ (c_Model_push l D cI sd ad o_C o_X o_L o_N r11.1 o_O r11.2 o_Q o_V o_I o_U 141 r12 hcr12) (cwV2 hts q1147 mvX8_push rfl rfl ⟨(Nat.le_of_ble_eq_true rfl), (Nat.le_of_ble_eq_true rfl)⟩) hK hE hA hP hD hS 0 (T := TX8) (N := 48) (ci := 8) rfl rfl [0, 15] rfl (by decide) rfl rfl rfl rfl rfl rfl hl.1 (Nat.le_of_ble_eq_true rfl) dX8_behindOperand_58 ⟨Nat.zero_le _, Nat.zero_le _⟩ (fun H locs hP hD hS => ?_)
      refine lv_aload_n hx hb dX8_behindOperand_61 rfl (lv_at hl 0 rfl) ?_
      obtain ⟨r13, hcr13, hM⟩ := ob_use hM
      refine cl_V (As := []) (rest := []) (wM0 ad o_X r13.1 r13.2 r11.1 r12 o_O r11.2 o_Q o_V o_I ++ wMC cI ad o_C ++ wMX cI ad o_X ++ wMN cI ad r13.2 ++ wMT cI ad r11.1 ++ wMU cI ad r12 ++ wME cI ad r11.2) [] ⟨hx, hb, hml, hown, hts⟩ (c_Model_step l D cI sd ad r11.1 r12 o_O r11.2 o_Q o_V o_I o_C o_X o_L o_N r13 hcr13) (cwV2 hts q1151 mvX8_step rfl rfl ⟨(Nat.le_of_ble_eq_true rfl), (Nat.le_of_ble_eq_true rfl)⟩) hK hE hA hP hD hS 0 (T := TX8) (N := 48) (ci := 8) rfl rfl [0, 1, 2, 3, 4, 5, 6, 7] rfl (by decide) rfl rfl rfl rfl rfl rfl hl.1 (Nat.le_of_ble_eq_true rfl) dX8_behindOperand_62 ⟨Nat.zero_le _, Nat.zero_le _⟩ (fun H locs hP hD hS => ?_)
      refine lv_goto (tgt := 125) hx hb dX8_behindOperand_65 (by decide) ?_
      cases hM
      exact rt_v hx hb hr hlk hP hD hS rfl dX8_behindOperand_125
  · replace hM := if_t c1 hM
    refine lv_aload_n hx hb dX8_behindOperand_9 rfl (lv_at hl 0 rfl) ?_
    obtain ⟨r14, hcr14, hM⟩ := ob_use hM
    refine cl_V (As := []) (rest := []) (wM0 ad o_X r14.2.1 o_N o_T o_U r14.2.2 o_E o_Q o_V o_I ++ wMC cI ad o_C ++ wMX cI ad o_X ++ wMN cI ad o_N ++ wMT cI ad o_T ++ wMU cI ad o_U ++ wME cI ad o_E) (.int r14.1 :: []) ⟨hx, hb, hml, hown, hts⟩ (c_Model_opens l D cI sd ad o_C o_X o_N o_T o_U o_E o_Q o_V o_I o_L o_O r14 hcr14) (cwV2 hts q1321 mvX8_opens rfl rfl ⟨(Nat.le_of_ble_eq_true rfl), (Nat.le_of_ble_eq_true rfl)⟩) hK hE hA hP hD hS 0 (T := TX8) (N := 48) (ci := 8) rfl rfl [0] rfl (by decide) rfl rfl rfl rfl rfl rfl hl.1 (Nat.le_of_ble_eq_true rfl) dX8_behindOperand_10 ⟨Nat.zero_le _, Nat.zero_le _⟩ (fun H locs hP hD hS => ?_)
    refine lv_if_eq (tgt := 125) hx hb dX8_behindOperand_13 (by decide) (fun c15 => ?_) (fun c15 => ?_)
    · replace hM := if_t c15 hM
      cases hM
      exact rt_v hx hb hr hlk hP hD hS rfl dX8_behindOperand_125
    · replace hM := if_f c15 hM
      refine lv_aload_n hx hb dX8_behindOperand_16 rfl (lv_at hl 0 rfl) ?_
      refine lv_bipush (v := 32) hx hb dX8_behindOperand_17 (by decide) ?_
      obtain ⟨r16, hcr16, hM⟩ := ob_use hM
      refine cl_V (As := [.int 32]) (rest := []) (wM0 ad o_X r14.2.1 o_N r16.1 o_U r14.2.2 r16.2 o_Q o_V o_I ++ wMC cI ad o_C ++ wMX cI ad o_X ++ wMN cI ad o_N ++ wMT cI ad r16.1 ++ wMU cI ad o_U ++ wME cI ad r16.2) [] ⟨hx, hb, hml, hown, hts⟩ (c_Model_start l D cI sd ad o_C o_X r14.2.1 o_N o_U o_Q o_V o_I o_T r14.2.2 o_E 32 r16 hcr16) (cwV2 hts q1424 mvX8_start rfl rfl ⟨(Nat.le_of_ble_eq_true rfl), (Nat.le_of_ble_eq_true rfl)⟩) hK hE hA hP hD hS 0 (T := TX8) (N := 48) (ci := 8) rfl rfl [0, 8, 9, 10, 11, 12, 13, 14, 16, 17, 18, 19] rfl (by decide) rfl rfl rfl rfl rfl rfl hl.1 (Nat.le_of_ble_eq_true rfl) dX8_behindOperand_19 ⟨Nat.zero_le _, Nat.zero_le _⟩ (fun H locs hP hD hS => ?_)
      refine lv_aload_n hx hb dX8_behindOperand_22 rfl (lv_at hl 0 rfl) ?_
      refine lv_sipush (v := 140) hx hb dX8_behindOperand_23 (by decide) ?_
      refine lv_sipush (v := 134) hx hb dX8_behindOperand_26 (by decide) ?_
      obtain ⟨r17, hcr17, hM⟩ := ob_use hM
      refine cl_V (As := [.int 140, .int 134]) (rest := []) (wM0 ad o_X r14.2.1 o_N r16.1 r17 r14.2.2 r16.2 o_Q o_V o_I ++ wMC cI ad o_C ++ wMX cI ad o_X ++ wMN cI ad o_N ++ wMT cI ad r16.1 ++ wMU cI ad r17 ++ wME cI ad r16.2) [] ⟨hx, hb, hml, hown, hts⟩ (c_Model_push2 l D cI sd ad o_C o_X r14.2.1 o_N r16.1 r14.2.2 r16.2 o_Q o_V o_I o_U 140 134 r17 hcr17) (cwV2 hts q1257 mvX8_push2 rfl rfl ⟨(Nat.le_of_ble_eq_true rfl), (Nat.le_of_ble_eq_true rfl)⟩) hK hE hA hP hD hS 0 (T := TX8) (N := 48) (ci := 8) rfl rfl [0, 15] rfl (by decide) rfl rfl rfl rfl rfl rfl hl.1 (Nat.le_of_ble_eq_true rfl) dX8_behindOperand_29 ⟨Nat.zero_le _, Nat.zero_le _⟩ (fun H locs hP hD hS => ?_)
      refine lv_aload_n hx hb dX8_behindOperand_32 rfl (lv_at hl 0 rfl) ?_
      obtain ⟨r18, hcr18, hM⟩ := ob_use hM
      refine cl_V (As := []) (rest := []) (wM0 ad o_X r18.1 r18.2 r16.1 r17 r14.2.2 r16.2 o_Q o_V o_I ++ wMC cI ad o_C ++ wMX cI ad o_X ++ wMN cI ad r18.2 ++ wMT cI ad r16.1 ++ wMU cI ad r17 ++ wME cI ad r16.2) [] ⟨hx, hb, hml, hown, hts⟩ (c_Model_step l D cI sd ad r16.1 r17 r14.2.2 r16.2 o_Q o_V o_I o_C o_X r14.2.1 o_N r18 hcr18) (cwV2 hts q1151 mvX8_step rfl rfl ⟨(Nat.le_of_ble_eq_true rfl), (Nat.le_of_ble_eq_true rfl)⟩) hK hE hA hP hD hS 0 (T := TX8) (N := 48) (ci := 8) rfl rfl [0, 1, 2, 3, 4, 5, 6, 7] rfl (by decide) rfl rfl rfl rfl rfl rfl hl.1 (Nat.le_of_ble_eq_true rfl) dX8_behindOperand_33 ⟨Nat.zero_le _, Nat.zero_le _⟩ (fun H locs hP hD hS => ?_)
      refine lv_goto (tgt := 125) hx hb dX8_behindOperand_36 (by decide) ?_
      cases hM
      exact rt_v hx hb hr hlk hP hD hS rfl dX8_behindOperand_125

set_option maxHeartbeats 4000000 in
set_option maxRecDepth 100000 in
theorem c_Model_finish (l : Launch) (D : va_G) (cI : ClassId) (sd : Nat → Nat) (ad : Nat → Nat) (o_C : S_MC) (o_X : S_MX) (o_L : S_ML) (o_N : S_MN) (o_U : S_MU) (o_Q : S_MQ) (o_V : S_MV) (o_I : S_MI) (o_T : S_MT) (o_O : S_MO) (o_E : S_ME) (res : S_MT × S_MO × S_ME) (hM : f_Model_finish o_T o_O o_E = some res) : Ctr l D cI sd yX8_finish (wsM yX8_finish cX8_finish 1 (Option.none : Option Jvm.ClassFile.FieldType)) { frames := 3, cells := 0, slots := 0, locals := 67 } [.ref (ad 100)] (wM0 ad o_X o_L o_N o_T o_U o_O o_E o_Q o_V o_I ++ wMT cI ad o_T ++ wME cI ad o_E) (wM0 ad o_X o_L o_N res.1 o_U res.2.1 res.2.2 o_Q o_V o_I ++ wMT cI ad res.1 ++ wME cI ad res.2.2) none := by
  refine Ctr.of (cc := cX8_finish) (maxL := 1) (own := RX8) (by decide +kernel) rfl rfl (Nat.le_of_ble_eq_true rfl) ?_
  intro p e s m below meth c A ls hx hb hr hml hown hts hlk hK hE hA hP hD hS hl
  have hl : lv_has ls 1 [(0, .ref (ad 100))] := hl
  unfold f_Model_finish at hM
  refine lv_aload_n hx hb dX8_finish_0 rfl (lv_at hl 0 rfl) ?_
  refine lv_dup hx hb dX8_finish_1 rfl ?_
  refine va_get (D := D) (ci := 8) (v := .int o_E.2.2.1) (C := RX8) (T := TX8) (N := 48) hx hb hts layX8 hown hK hP 0 rfl rfl 38 (by decide) (hts _ (inA q1016)) (fun _ h9 => h9) rfl dX8_finish_2 ?_
  refine lv_iconst (v := 1) hx hb dX8_finish_5 (by decide) ?_
  refine lv_isub hx hb dX8_finish_6 ?_
  refine va_put (D := D) (ci := 8) (v := .int (o_E.2.2.1 - 1)) (ty := .int) (C := RX8) (T := TX8) (N := 48) hx hb hts layX8 tyX8 tyX8_ok nmX8 hown hK hP hD hS 0 rfl rfl 38 (by decide) (hts _ (inA q1016)) (fun _ h9 => h9) rfl (by decide +kernel) rfl rfl (Nat.le_of_ble_eq_true rfl) dX8_finish_7 (fun H locs hP hD hS => ?_)
  have hP : va_P D vwCl (wM0 ad o_X o_L o_N o_T o_U o_O (o_E.1, o_E.2.1, o_E.2.2.1 - 1, o_E.2.2.2) o_Q o_V o_I ++ wMT cI ad o_T ++ wME cI ad (o_E.1, o_E.2.1, o_E.2.2.1 - 1, o_E.2.2.2)) H := hP
  have hD : va_D A (wM0 ad o_X o_L o_N o_T o_U o_O (o_E.1, o_E.2.1, o_E.2.2.1 - 1, o_E.2.2.2) o_Q o_V o_I ++ wMT cI ad o_T ++ wME cI ad (o_E.1, o_E.2.1, o_E.2.2.1 - 1, o_E.2.2.2)) := hD
  refine lv_aload_n hx hb dX8_finish_10 rfl (lv_at hl 0 rfl) ?_
  refine lv_aload_n hx hb dX8_finish_11 rfl (lv_at hl 0 rfl) ?_
  refine va_get (D := D) (ci := 8) (v := .ref (ad 119)) (C := RX8) (T := TX8) (N := 48) hx hb hts layX8 hown hK hP 0 rfl rfl 39 (by decide) (hts _ (inA q1017)) (fun _ h9 => h9) rfl dX8_finish_12 ?_
  refine lv_aload_n hx hb dX8_finish_15 rfl (lv_at hl 0 rfl) ?_
  refine va_get (D := D) (ci := 8) (v := .int (o_E.2.2.1 - 1)) (C := RX8) (T := TX8) (N := 48) hx hb hts layX8 hown hK hP 0 rfl rfl 38 (by decide) (hts _ (inA q1016)) (fun _ h9 => h9) rfl dX8_finish_16 ?_
  obtain ⟨b1, hM⟩ := gd_use hM
  refine va_iald hx hb hK hP 11 0 rfl rfl b1 dX8_finish_19 ?_
  obtain ⟨r2, hcr2, hM⟩ := ob_use hM
  refine cl_V (As := [.int (o_E.2.2.2.2.2.2 (o_E.2.2.1 - 1).toNatClampNeg)]) (rest := []) (wM0 ad o_X o_L o_N r2.1 o_U r2.2.1 r2.2.2 o_Q o_V o_I ++ wMT cI ad r2.1 ++ wME cI ad r2.2.2) [] ⟨hx, hb, hml, hown, hts⟩ (c_Model_operandCame l D cI sd ad o_C o_X o_L o_N o_U o_Q o_V o_I o_T o_O (o_E.1, o_E.2.1, o_E.2.2.1 - 1, o_E.2.2.2) (o_E.2.2.2.2.2.2 (o_E.2.2.1 - 1).toNatClampNeg) r2 hcr2) (cwV2 hts q1389 mvX8_operandCame rfl rfl ⟨(Nat.le_of_ble_eq_true rfl), (Nat.le_of_ble_eq_true rfl)⟩) hK hE hA hP hD hS 0 (T := TX8) (N := 48) (ci := 8) rfl rfl [0, 1, 2, 3, 4, 5, 6, 7, 8, 9, 10, 11] rfl (by decide) rfl rfl rfl rfl rfl rfl hl.1 (Nat.le_of_ble_eq_true rfl) dX8_finish_20 ⟨Nat.zero_le _, Nat.zero_le _⟩ (fun H locs hP hD hS => ?_)
  cases hM
  exact rt_v hx hb hr hlk hP hD hS rfl dX8_finish_23

set_option maxHeartbeats 4000000 in
set_option maxRecDepth 100000 in
theorem c_Model_argument (l : Launch) (D : va_G) (cI : ClassId) (sd : Nat → Nat) (ad : Nat → Nat) (o_C : S_MC) (o_X : S_MX) (o_L : S_ML) (o_N : S_MN) (o_U : S_MU) (o_O : S_MO) (o_Q : S_MQ) (o_V : S_MV) (o_I : S_MI) (o_T : S_MT) (o_E : S_ME) (res : S_MT × S_ME) (hM : f_Model_argument o_T o_E = some res) : Ctr l D cI sd yX8_argument (wsM yX8_argument cX8_argument 1 (Option.none : Option Jvm.ClassFile.FieldType)) { frames := 1, cells := 0, slots := 0, locals := 22 } [.ref (ad 100)] (wM0 ad o_X o_L o_N o_T o_U o_O o_E o_Q o_V o_I ++ wMT cI ad o_T ++ wME cI ad o_E) (wM0 ad o_X o_L o_N res.1 o_U o_O res.2 o_Q o_V o_I ++ wMT cI ad res.1 ++ wME cI ad res.2) none := by
  refine Ctr.of (cc := cX8_argument) (maxL := 1) (own := RX8) (by decide +kernel) rfl rfl (Nat.le_of_ble_eq_true rfl) ?_
  intro p e s m below meth c A ls hx hb hr hml hown hts hlk hK hE hA hP hD hS hl
  have hl : lv_has ls 1 [(0, .ref (ad 100))] := hl
  unfold f_Model_argument at hM
  refine lv_aload_n hx hb dX8_argument_0 rfl (lv_at hl 0 rfl) ?_
  refine lv_aload_n hx hb dX8_argument_1 rfl (lv_at hl 0 rfl) ?_
  obtain ⟨r1, hcr1, hM⟩ := ob_use hM
  refine cl_V (As := []) (rest := [.ref (ad 100)]) (wM0 ad o_X o_L o_N o_T o_U o_O r1.2 o_Q o_V o_I ++ wMT cI ad o_T ++ wME cI ad r1.2) (.int r1.1 :: [.ref (ad 100)]) ⟨hx, hb, hml, hown, hts⟩ (c_Model_takeOperand l D cI sd ad o_C o_X o_L o_N o_T o_U o_O o_Q o_V o_I o_E r1 hcr1) (cwV2 hts q1401 mvX8_takeOperand rfl rfl ⟨(Nat.le_of_ble_eq_true rfl), (Nat.le_of_ble_eq_true rfl)⟩) hK hE hA hP hD hS 0 (T := TX8) (N := 48) (ci := 8) rfl rfl [0, 8, 9, 10, 11] rfl (by decide) rfl rfl rfl rfl rfl rfl hl.1 (Nat.le_of_ble_eq_true rfl) dX8_argument_2 ⟨Nat.zero_le _, Nat.zero_le _⟩ (fun H locs hP hD hS => ?_)
  refine lv_aload_n hx hb dX8_argument_5 rfl (lv_at hl 0 rfl) ?_
  refine va_get (D := D) (ci := 8) (v := .ref (ad 119)) (C := RX8) (T := TX8) (N := 48) hx hb hts layX8 hown hK hP 0 rfl rfl 39 (by decide) (hts _ (inA q1017)) (fun _ h9 => h9) rfl dX8_argument_6 ?_
  refine lv_aload_n hx hb dX8_argument_9 rfl (lv_at hl 0 rfl) ?_
  refine va_get (D := D) (ci := 8) (v := .int r1.2.2.2.1) (C := RX8) (T := TX8) (N := 48) hx hb hts layX8 hown hK hP 0 rfl rfl 38 (by decide) (hts _ (inA q1016)) (fun _ h9 => h9) rfl dX8_argument_10 ?_
  refine lv_iconst (v := 1) hx hb dX8_argument_13 (by decide) ?_
  refine lv_isub hx hb dX8_argument_14 ?_
  obtain ⟨b2, hM⟩ := gd_use hM
  refine va_iald hx hb hK hP 11 0 rfl rfl b2 dX8_argument_15 ?_
  obtain ⟨r3, hcr3, hM⟩ := ob_use hM
  refine cl_V (As := [.int r1.1, .int (r1.2.2.2.2.2.2.2 (r1.2.2.2.1 - 1).toNatClampNeg)]) (rest := []) (wM0 ad o_X o_L o_N r3 o_U o_O r1.2 o_Q o_V o_I ++ wMT cI ad r3 ++ wME cI ad r1.2) [] ⟨hx, hb, hml, hown, hts⟩ (c_Model_hang l D cI sd ad o_C o_X o_L o_N o_U o_O r1.2 o_Q o_V o_I o_T r1.1 (r1.2.2.2.2.2.2.2 (r1.2.2.2.1 - 1).toNatClampNeg) r3 hcr3) (cwV2 hts q1249 mvX8_hang rfl rfl ⟨(Nat.le_of_ble_eq_true rfl), (Nat.le_of_ble_eq_true rfl)⟩) hK hE hA hP hD hS 0 (T := TX8) (N := 48) (ci := 8) rfl rfl [0, 1, 2, 3, 4, 5, 6, 7] rfl (by decide) rfl rfl rfl rfl rfl rfl hl.1 (Nat.le_of_ble_eq_true rfl) dX8_argument_16 ⟨Nat.zero_le _, Nat.zero_le _⟩ (fun H locs hP hD hS => ?_)
  cases hM
  exact rt_v hx hb hr hlk hP hD hS rfl dX8_argument_19

set_option maxHeartbeats 4000000 in
set_option maxRecDepth 100000 in
theorem c_Model_elementEnd (l : Launch) (D : va_G) (cI : ClassId) (sd : Nat → Nat) (ad : Nat → Nat) (o_U : S_MU) (o_Q : S_MQ) (o_V : S_MV) (o_I : S_MI) (o_C : S_MC) (o_X : S_MX) (o_L : S_ML) (o_N : S_MN) (o_T : S_MT) (o_O : S_MO) (o_E : S_ME) (res : S_ML × S_MN × S_MT × S_MO × S_ME) (hM : f_Model_elementEnd o_C o_X o_L o_N o_T o_O o_E = some res) : Ctr l D cI sd yX8_elementEnd (wsM yX8_elementEnd cX8_elementEnd 1 (Option.none : Option Jvm.ClassFile.FieldType)) { frames := 6, cells := 0, slots := 0, locals := 133 } [.ref (ad 100)] (wM0 ad o_X o_L o_N o_T o_U o_O o_E o_Q o_V o_I ++ wMC cI ad o_C ++ wMX cI ad o_X ++ wMN cI ad o_N ++ wMT cI ad o_T ++ wME cI ad o_E) (wM0 ad o_X res.1 res.2.1 res.2.2.1 o_U res.2.2.2.1 res.2.2.2.2 o_Q o_V o_I ++ wMC cI ad o_C ++ wMX cI ad o_X ++ wMN cI ad res.2.1 ++ wMT cI ad res.2.2.1 ++ wME cI ad res.2.2.2.2) none := by
  refine Ctr.of (cc := cX8_elementEnd) (maxL := 1) (own := RX8) (by decide +kernel) rfl rfl (Nat.le_of_ble_eq_true rfl) ?_
  intro p e s m below meth c A ls hx hb hr hml hown hts hlk hK hE hA hP hD hS hl
  have hl : lv_has ls 1 [(0, .ref (ad 100))] := hl
  unfold f_Model_elementEnd at hM
  refine lv_aload_n hx hb dX8_elementEnd_0 rfl (lv_at hl 0 rfl) ?_
  refine lv_dup hx hb dX8_elementEnd_1 rfl ?_
  refine va_get (D := D) (ci := 8) (v := .int o_O.1) (C := RX8) (T := TX8) (N := 48) hx hb hts layX8 hown hK hP 0 rfl rfl 27 (by decide) (hts _ (inA q1005)) (fun _ h9 => h9) rfl dX8_elementEnd_2 ?_
  refine lv_iconst (v := 1) hx hb dX8_elementEnd_5 (by decide) ?_
  refine lv_isub hx hb dX8_elementEnd_6 ?_
  refine va_put (D := D) (ci := 8) (v := .int (o_O.1 - 1)) (ty := .int) (C := RX8) (T := TX8) (N := 48) hx hb hts layX8 tyX8 tyX8_ok nmX8 hown hK hP hD hS 0 rfl rfl 27 (by decide) (hts _ (inA q1005)) (fun _ h9 => h9) rfl (by decide +kernel) rfl rfl (Nat.le_of_ble_eq_true rfl) dX8_elementEnd_7 (fun H locs hP hD hS => ?_)
  have hP : va_P D vwCl (wM0 ad o_X o_L o_N o_T o_U (o_O.1 - 1, o_O.2) o_E o_Q o_V o_I ++ wMC cI ad o_C ++ wMX cI ad o_X ++ wMN cI ad o_N ++ wMT cI ad o_T ++ wME cI ad o_E) H := hP
  have hD : va_D A (wM0 ad o_X o_L o_N o_T o_U (o_O.1 - 1, o_O.2) o_E o_Q o_V o_I ++ wMC cI ad o_C ++ wMX cI ad o_X ++ wMN cI ad o_N ++ wMT cI ad o_T ++ wME cI ad o_E) := hD
  refine lv_aload_n hx hb dX8_elementEnd_10 rfl (lv_at hl 0 rfl) ?_
  obtain ⟨r1, hcr1, hM⟩ := ob_use hM
  refine cl_V (As := []) (rest := []) (wM0 ad o_X o_L o_N r1.1 o_U (o_O.1 - 1, o_O.2) r1.2 o_Q o_V o_I ++ wMC cI ad o_C ++ wMX cI ad o_X ++ wMN cI ad o_N ++ wMT cI ad r1.1 ++ wME cI ad r1.2) [] ⟨hx, hb, hml, hown, hts⟩ (c_Model_argument l D cI sd ad o_C o_X o_L o_N o_U (o_O.1 - 1, o_O.2) o_Q o_V o_I o_T o_E r1 hcr1) (cwV2 hts q1432 mvX8_argument rfl rfl ⟨(Nat.le_of_ble_eq_true rfl), (Nat.le_of_ble_eq_true rfl)⟩) hK hE hA hP hD hS 0 (T := TX8) (N := 48) (ci := 8) rfl rfl [0, 8, 9, 10, 11, 12, 13, 14, 15, 16, 17, 18] rfl (by decide) rfl rfl rfl rfl rfl rfl hl.1 (Nat.le_of_ble_eq_true rfl) dX8_elementEnd_11 ⟨Nat.zero_le _, Nat.zero_le _⟩ (fun H locs hP hD hS => ?_)
  refine lv_aload_n hx hb dX8_elementEnd_14 rfl (lv_at hl 0 rfl) ?_
  obtain ⟨r2, hcr2, hM⟩ := ob_use hM
  refine cl_V (As := []) (rest := []) (wM0 ad o_X o_L o_N r2.1 o_U r2.2.1 r2.2.2 o_Q o_V o_I ++ wMC cI ad o_C ++ wMX cI ad o_X ++ wMN cI ad o_N ++ wMT cI ad r2.1 ++ wME cI ad r2.2.2) [] ⟨hx, hb, hml, hown, hts⟩ (c_Model_finish l D cI sd ad o_C o_X o_L o_N o_U o_Q o_V o_I r1.1 (o_O.1 - 1, o_O.2) r1.2 r2 hcr2) (cwV2 hts q1436 mvX8_finish rfl rfl ⟨(Nat.le_of_ble_eq_true rfl), (Nat.le_of_ble_eq_true rfl)⟩) hK hE hA hP hD hS 0 (T := TX8) (N := 48) (ci := 8) rfl rfl [0, 8, 9, 10, 11, 12, 13, 14, 15, 16, 17, 18] rfl (by decide) rfl rfl rfl rfl rfl rfl hl.1 (Nat.le_of_ble_eq_true rfl) dX8_elementEnd_15 ⟨Nat.zero_le _, Nat.zero_le _⟩ (fun H locs hP hD hS => ?_)
  refine lv_aload_n hx hb dX8_elementEnd_18 rfl (lv_at hl 0 rfl) ?_
  refine lv_bipush (v := 58) hx hb dX8_elementEnd_19 (by decide) ?_
  obtain ⟨r3, hcr3, hM⟩ := ob_use hM
  refine cl_V (As := [.int 58]) (rest := []) (wM0 ad o_X r3.1 r3.2 r2.1 o_U r2.2.1 r2.2.2 o_Q o_V o_I ++ wMC cI ad o_C ++ wMX cI ad o_X ++ wMN cI ad r3.2 ++ wMT cI ad r2.1 ++ wME cI ad r2.2.2) [] ⟨hx, hb, hml, hown, hts⟩ (c_Model_pass l D cI sd ad r2.1 o_U r2.2.1 r2.2.2 o_Q o_V o_I o_C o_X o_L o_N 58 r3 hcr3) (cwV2 hts q1229 mvX8_pass rfl rfl ⟨(Nat.le_of_ble_eq_true rfl), (Nat.le_of_ble_eq_true rfl)⟩) hK hE hA hP hD hS 0 (T := TX8) (N := 48) (ci := 8) rfl rfl [0, 1, 2, 3, 4, 5, 6, 7] rfl (by decide) rfl rfl rfl rfl rfl rfl hl.1 (Nat.le_of_ble_eq_true rfl) dX8_elementEnd_21 ⟨Nat.zero_le _, Nat.zero_le _⟩ (fun H locs hP hD hS => ?_)
  cases hM
  exact rt_v hx hb hr hlk hP hD hS rfl dX8_elementEnd_24

set_option maxHeartbeats 4000000 in
set_option maxRecDepth 100000 in
theorem c_Model_output (l : Launch) (D : va_G) (cI : ClassId) (sd : Nat → Nat) (ad : Nat → Nat) (o_U : S_MU) (o_Q : S_MQ) (o_V : S_MV) (o_I : S_MI) (o_C : S_MC) (o_X : S_MX) (o_L : S_ML) (o_N : S_MN) (o_T : S_MT) (o_O : S_MO) (o_E : S_ME) (res : S_ML × S_MN × S_MT × S_MO × S_ME) (hM : f_Model_output o_C o_X o_L o_N o_T o_O o_E = some res) : Ctr l D cI sd yX8_output (wsM yX8_output cX8_output 1 (Option.none : Option Jvm.ClassFile.FieldType)) { frames := 6, cells := 0, slots := 0, locals := 133 } [.ref (ad 100)] (wM0 ad o_X o_L o_N o_T o_U o_O o_E o_Q o_V o_I ++ wMC cI ad o_C ++ wMX cI ad o_X ++ wMN cI ad o_N ++ wMT cI ad o_T ++ wME cI ad o_E) (wM0 ad o_X res.1 res.2.1 res.2.2.1 o_U res.2.2.2.1 res.2.2.2.2 o_Q o_V o_I ++ wMC cI ad o_C ++ wMX cI ad o_X ++ wMN cI ad res.2.1 ++ wMT cI ad res.2.2.1 ++ wME cI ad res.2.2.2.2) none := by
  refine Ctr.of (cc := cX8_output) (maxL := 1) (own := RX8) (by decide +kernel) rfl rfl (Nat.le_of_ble_eq_true rfl) ?_
  intro p e s m below meth c A ls hx hb hr hml hown hts hlk hK hE hA hP hD hS hl
  have hl : lv_has ls 1 [(0, .ref (ad 100))] := hl
  unfold f_Model_output at hM
  refine lv_aload_n hx hb dX8_output_0 rfl (lv_at hl 0 rfl) ?_
  refine lv_aload_n hx hb dX8_output_1 rfl (lv_at hl 0 rfl) ?_
  refine lv_bipush (v := 6) hx hb dX8_output_2 (by decide) ?_
  refine lv_aload_n hx hb dX8_output_4 rfl (lv_at hl 0 rfl) ?_
  refine va_get (D := D) (ci := 8) (v := .int o_L.1) (C := RX8) (T := TX8) (N := 48) hx hb hts layX8 hown hK hP 0 rfl rfl 6 (by decide) (hts _ (inA q984)) (fun _ h9 => h9) rfl dX8_output_5 ?_
  refine lv_aload_n hx hb dX8_output_8 rfl (lv_at hl 0 rfl) ?_
  refine va_get (D := D) (ci := 8) (v := .int o_L.2.2.1) (C := RX8) (T := TX8) (N := 48) hx hb hts layX8 hown hK hP 0 rfl rfl 8 (by decide) (hts _ (inA q986)) (fun _ h9 => h9) rfl dX8_output_9 ?_
  obtain ⟨r1, hcr1, hM⟩ := ob_use hM
  refine cl_V (As := [.int 6, .int o_L.1, .int o_L.2.2.1]) (rest := [.ref (ad 100)]) (wM0 ad o_X o_L o_N r1.2 o_U o_O o_E o_Q o_V o_I ++ wMC cI ad o_C ++ wMX cI ad o_X ++ wMN cI ad o_N ++ wMT cI ad r1.2 ++ wME cI ad o_E) (.int r1.1 :: [.ref (ad 100)]) ⟨hx, hb, hml, hown, hts⟩ (c_Model_make l D cI sd ad o_C o_X o_L o_N o_U o_O o_E o_Q o_V o_I o_T 6 o_L.1 o_L.2.2.1 r1 hcr1) (cwV2 hts q1143 mvX8_make rfl rfl ⟨(Nat.le_of_ble_eq_true rfl), (Nat.le_of_ble_eq_true rfl)⟩) hK hE hA hP hD hS 0 (T := TX8) (N := 48) (ci := 8) rfl rfl [0, 8, 9, 10, 11, 12, 13, 14] rfl (by decide) rfl rfl rfl rfl rfl rfl hl.1 (Nat.le_of_ble_eq_true rfl) dX8_output_12 ⟨Nat.zero_le _, Nat.zero_le _⟩ (fun H locs hP hD hS => ?_)
  refine lv_aload_n hx hb dX8_output_15 rfl (lv_at hl 0 rfl) ?_
  refine va_get (D := D) (ci := 8) (v := .ref (ad 119)) (C := RX8) (T := TX8) (N := 48) hx hb hts layX8 hown hK hP 0 rfl rfl 39 (by decide) (hts _ (inA q1017)) (fun _ h9 => h9) rfl dX8_output_16 ?_
  refine lv_aload_n hx hb dX8_output_19 rfl (lv_at hl 0 rfl) ?_
  refine va_get (D := D) (ci := 8) (v := .int o_E.2.2.1) (C := RX8) (T := TX8) (N := 48) hx hb hts layX8 hown hK hP 0 rfl rfl 38 (by decide) (hts _ (inA q1016)) (fun _ h9 => h9) rfl dX8_output_20 ?_
  refine lv_iconst (v := 1) hx hb dX8_output_23 (by decide) ?_
  refine lv_isub hx hb dX8_output_24 ?_
  obtain ⟨b2, hM⟩ := gd_use hM
  refine va_iald hx hb hK hP 18 0 rfl rfl b2 dX8_output_25 ?_
  obtain ⟨r3, hcr3, hM⟩ := ob_use hM
  refine cl_V (As := [.int r1.1, .int (o_E.2.2.2.2.2.2 (o_E.2.2.1 - 1).toNatClampNeg)]) (rest := []) (wM0 ad o_X o_L o_N r3 o_U o_O o_E o_Q o_V o_I ++ wMC cI ad o_C ++ wMX cI ad o_X ++ wMN cI ad o_N ++ wMT cI ad r3 ++ wME cI ad o_E) [] ⟨hx, hb, hml, hown, hts⟩ (c_Model_hang l D cI sd ad o_C o_X o_L o_N o_U o_O o_E o_Q o_V o_I r1.2 r1.1 (o_E.2.2.2.2.2.2 (o_E.2.2.1 - 1).toNatClampNeg) r3 hcr3) (cwV2 hts q1249 mvX8_hang rfl rfl ⟨(Nat.le_of_ble_eq_true rfl), (Nat.le_of_ble_eq_true rfl)⟩) hK hE hA hP hD hS 0 (T := TX8) (N := 48) (ci := 8) rfl rfl [0, 8, 9, 10, 11, 12, 13, 14] rfl (by decide) rfl rfl rfl rfl rfl rfl hl.1 (Nat.le_of_ble_eq_true rfl) dX8_output_26 ⟨Nat.zero_le _, Nat.zero_le _⟩ (fun H locs hP hD hS => ?_)
  refine lv_aload_n hx hb dX8_output_29 rfl (lv_at hl 0 rfl) ?_
  obtain ⟨r4, hcr4, hM⟩ := ob_use hM
  refine cl_V (As := []) (rest := []) (wM0 ad o_X o_L o_N r4.1 o_U r4.2.1 r4.2.2 o_Q o_V o_I ++ wMC cI ad o_C ++ wMX cI ad o_X ++ wMN cI ad o_N ++ wMT cI ad r4.1 ++ wME cI ad r4.2.2) [] ⟨hx, hb, hml, hown, hts⟩ (c_Model_finish l D cI sd ad o_C o_X o_L o_N o_U o_Q o_V o_I r3 o_O o_E r4 hcr4) (cwV2 hts q1436 mvX8_finish rfl rfl ⟨(Nat.le_of_ble_eq_true rfl), (Nat.le_of_ble_eq_true rfl)⟩) hK hE hA hP hD hS 0 (T := TX8) (N := 48) (ci := 8) rfl rfl [0, 8, 9, 10, 11, 12, 13, 14, 15, 16, 17, 18] rfl (by decide) rfl rfl rfl rfl rfl rfl hl.1 (Nat.le_of_ble_eq_true rfl) dX8_output_30 ⟨Nat.zero_le _, Nat.zero_le _⟩ (fun H locs hP hD hS => ?_)
  refine lv_aload_n hx hb dX8_output_33 rfl (lv_at hl 0 rfl) ?_
  refine lv_bipush (v := 80) hx hb dX8_output_34 (by decide) ?_
  obtain ⟨r5, hcr5, hM⟩ := ob_use hM
  refine cl_V (As := [.int 80]) (rest := []) (wM0 ad o_X r5.1 r5.2 r4.1 o_U r4.2.1 r4.2.2 o_Q o_V o_I ++ wMC cI ad o_C ++ wMX cI ad o_X ++ wMN cI ad r5.2 ++ wMT cI ad r4.1 ++ wME cI ad r4.2.2) [] ⟨hx, hb, hml, hown, hts⟩ (c_Model_pass l D cI sd ad r4.1 o_U r4.2.1 r4.2.2 o_Q o_V o_I o_C o_X o_L o_N 80 r5 hcr5) (cwV2 hts q1229 mvX8_pass rfl rfl ⟨(Nat.le_of_ble_eq_true rfl), (Nat.le_of_ble_eq_true rfl)⟩) hK hE hA hP hD hS 0 (T := TX8) (N := 48) (ci := 8) rfl rfl [0, 1, 2, 3, 4, 5, 6, 7] rfl (by decide) rfl rfl rfl rfl rfl rfl hl.1 (Nat.le_of_ble_eq_true rfl) dX8_output_36 ⟨Nat.zero_le _, Nat.zero_le _⟩ (fun H locs hP hD hS => ?_)
  cases hM
  exact rt_v hx hb hr hlk hP hD hS rfl dX8_output_39

set_option maxHeartbeats 4000000 in
set_option maxRecDepth 100000 in
theorem c_Model_resultEnd (l : Launch) (D : va_G) (cI : ClassId) (sd : Nat → Nat) (ad : Nat → Nat) (o_U : S_MU) (o_Q : S_MQ) (o_V : S_MV) (o_I : S_MI) (o_C : S_MC) (o_X : S_MX) (o_L : S_ML) (o_N : S_MN) (o_T : S_MT) (o_O : S_MO) (o_E : S_ME) (res : S_ML × S_MN × S_MT × S_MO × S_ME) (hM : f_Model_resultEnd o_C o_X o_L o_N o_T o_O o_E = some res) : Ctr l D cI sd yX8_resultEnd (wsM yX8_resultEnd cX8_resultEnd 1 (Option.none : Option Jvm.ClassFile.FieldType)) { frames := 6, cells := 0, slots := 0, locals := 133 } [.ref (ad 100)] (wM0 ad o_X o_L o_N o_T o_U o_O o_E o_Q o_V o_I ++ wMC cI ad o_C ++ wMX cI ad o_X ++ wMN cI ad o_N ++ wMT cI ad o_T ++ wME cI ad o_E) (wM0 ad o_X res.1 res.2.1 res.2.2.1 o_U res.2.2.2.1 res.2.2.2.2 o_Q o_V o_I ++ wMC cI ad o_C ++ wMX cI ad o_X ++ wMN cI ad res.2.1 ++ wMT cI ad res.2.2.1 ++ wME cI ad res.2.2.2.2) none := by
  refine Ctr.of (cc := cX8_resultEnd) (maxL := 1) (own := RX8) (by decide +kernel) rfl rfl (Nat.le_of_ble_eq_true rfl) ?_
  intro p e s m below meth c A ls hx hb hr hml hown hts hlk hK hE hA hP hD hS hl
  have hl : lv_has ls 1 [(0, .ref (ad 100))] := hl
  unfold f_Model_resultEnd at hM
  refine lv_aload_n hx hb dX8_resultEnd_0 rfl (lv_at hl 0 rfl) ?_
  refine lv_dup hx hb dX8_resultEnd_1 rfl ?_
  refine va_get (D := D) (ci := 8) (v := .int o_O.1) (C := RX8) (T := TX8) (N := 48) hx hb hts layX8 hown hK hP 0 rfl rfl 27 (by decide) (hts _ (inA q1005)) (fun _ h9 => h9) rfl dX8_resultEnd_2 ?_
  refine lv_iconst (v := 1) hx hb dX8_resultEnd_5 (by decide) ?_
  refine lv_isub hx hb dX8_resultEnd_6 ?_
  refine va_put (D := D) (ci := 8) (v := .int (o_O.1 - 1)) (ty := .int) (C := RX8) (T := TX8) (N := 48) hx hb hts layX8 tyX8 tyX8_ok nmX8 hown hK hP hD hS 0 rfl rfl 27 (by decide) (hts _ (inA q1005)) (fun _ h9 => h9) rfl (by decide +kernel) rfl rfl (Nat.le_of_ble_eq_true rfl) dX8_resultEnd_7 (fun H locs hP hD hS => ?_)
  have hP : va_P D vwCl (wM0 ad o_X o_L o_N o_T o_U (o_O.1 - 1, o_O.2) o_E o_Q o_V o_I ++ wMC cI ad o_C ++ wMX cI ad o_X ++ wMN cI ad o_N ++ wMT cI ad o_T ++ wME cI ad o_E) H := hP
  have hD : va_D A (wM0 ad o_X o_L o_N o_T o_U (o_O.1 - 1, o_O.2) o_E o_Q o_V o_I ++ wMC cI ad o_C ++ wMX cI ad o_X ++ wMN cI ad o_N ++ wMT cI ad o_T ++ wME cI ad o_E) := hD
  refine lv_aload_n hx hb dX8_resultEnd_10 rfl (lv_at hl 0 rfl) ?_
  obtain ⟨r1, hcr1, hM⟩ := ob_use hM
  refine cl_V (As := []) (rest := []) (wM0 ad o_X o_L o_N r1.1 o_U r1.2.1 r1.2.2 o_Q o_V o_I ++ wMC cI ad o_C ++ wMX cI ad o_X ++ wMN cI ad o_N ++ wMT cI ad r1.1 ++ wME cI ad r1.2.2) [] ⟨hx, hb, hml, hown, hts⟩ (c_Model_finish l D cI sd ad o_C o_X o_L o_N o_U o_Q o_V o_I o_T (o_O.1 - 1, o_O.2) o_E r1 hcr1) (cwV2 hts q1436 mvX8_finish rfl rfl ⟨(Nat.le_of_ble_eq_true rfl), (Nat.le_of_ble_eq_true rfl)⟩) hK hE hA hP hD hS 0 (T := TX8) (N := 48) (ci := 8) rfl rfl [0, 8, 9, 10, 11, 12, 13, 14, 15, 16, 17, 18] rfl (by decide) rfl rfl rfl rfl rfl rfl hl.1 (Nat.le_of_ble_eq_true rfl) dX8_resultEnd_11 ⟨Nat.zero_le _, Nat.zero_le _⟩ (fun H locs hP hD hS => ?_)
  refine lv_aload_n hx hb dX8_resultEnd_14 rfl (lv_at hl 0 rfl) ?_
  refine lv_bipush (v := 56) hx hb dX8_resultEnd_15 (by decide) ?_
  obtain ⟨r2, hcr2, hM⟩ := ob_use hM
  refine cl_V (As := [.int 56]) (rest := []) (wM0 ad o_X r2.1 r2.2 r1.1 o_U r1.2.1 r1.2.2 o_Q o_V o_I ++ wMC cI ad o_C ++ wMX cI ad o_X ++ wMN cI ad r2.2 ++ wMT cI ad r1.1 ++ wME cI ad r1.2.2) [] ⟨hx, hb, hml, hown, hts⟩ (c_Model_pass l D cI sd ad r1.1 o_U r1.2.1 r1.2.2 o_Q o_V o_I o_C o_X o_L o_N 56 r2 hcr2) (cwV2 hts q1229 mvX8_pass rfl rfl ⟨(Nat.le_of_ble_eq_true rfl), (Nat.le_of_ble_eq_true rfl)⟩) hK hE hA hP hD hS 0 (T := TX8) (N := 48) (ci := 8) rfl rfl [0, 1, 2, 3, 4, 5, 6, 7] rfl (by decide) rfl rfl rfl rfl rfl rfl hl.1 (Nat.le_of_ble_eq_true rfl) dX8_resultEnd_17 ⟨Nat.zero_le _, Nat.zero_le _⟩ (fun H locs hP hD hS => ?_)
  cases hM
  exact rt_v hx hb hr hlk hP hD hS rfl dX8_resultEnd_20

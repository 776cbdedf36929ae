set_option maxHeartbeats 4000000 in
set_option maxRecDepth 100000 in
theorem c_Model_step (l : Launch) (D : va_G) (cI : ClassId) (sd : Nat → Nat) (ad : Nat → Nat) (o_T : S_MT) (o_U : S_MU) (o_O : S_MO) (o_E : S_ME) (o_Q : S_MQ) (o_V : S_MV) (o_I : S_MI) (o_C : S_MC) (o_X : S_MX) (o_L : S_ML) (o_N : S_MN) (res : S_ML × S_MN) (hM : f_Model_step o_C o_X o_L o_N = some res) : Ctr l D cI sd yX8_step (wsM yX8_step cX8_step 2 (Option.none : Option Jvm.ClassFile.FieldType)) { frames := 4, cells := 0, slots := 0, locals := 91 } [.ref (ad 100)] (wM0 ad o_X o_L o_N o_T o_U o_O o_E o_Q o_V o_I ++ wMC cI ad o_C ++ wMX cI ad o_X ++ wMN cI ad o_N) (wM0 ad o_X res.1 res.2 o_T o_U o_O o_E o_Q o_V o_I ++ wMC cI ad o_C ++ wMX cI ad o_X ++ wMN cI ad res.2) none := by
  refine Ctr.of (cc := cX8_step) (maxL := 2) (own := RX8) (by decide +kernel) rfl rfl (Nat.le_of_ble_eq_true rfl) ?_
  intro p e s m below meth c A ls hx hb hr hml hown hts hlk hK hE hA hP hD hS hl
  have hl : lv_has ls 2 [(0, .ref (ad 100))] := hl
  unfold f_Model_step at hM
  refine lv_aload_n hx hb dX8_step_0 rfl (lv_at hl 0 rfl) ?_
  refine lv_aload_n hx hb dX8_step_1 rfl (lv_at hl 0 rfl) ?_
  refine va_get (D := D) (ci := 8) (v := .int o_L.1) (C := RX8) (T := TX8) (N := 48) hx hb hts layX8 hown hK hP 0 rfl rfl 6 (by decide) (hts _ (inA q984)) (fun _ h9 => h9) rfl dX8_step_2 ?_
  refine va_put (D := D) (ci := 8) (v := .int o_L.1) (ty := .int) (C := RX8) (T := TX8) (N := 48) hx hb hts layX8 tyX8 tyX8_ok nmX8 hown hK hP hD hS 0 rfl rfl 10 (by decide) (hts _ (inA q988)) (fun _ h9 => h9) rfl (by decide +kernel) rfl rfl (Nat.le_of_ble_eq_true rfl) dX8_step_5 (fun H locs hP hD hS => ?_)
  have hP : va_P D vwCl (wM0 ad o_X (o_L.1, o_L.2.1, o_L.2.2.1, o_L.2.2.2.1, o_L.1, o_L.2.2.2.2.2) o_N o_T o_U o_O o_E o_Q o_V o_I ++ wMC cI ad o_C ++ wMX cI ad o_X ++ wMN cI ad o_N) H := hP
  have hD : va_D A (wM0 ad o_X (o_L.1, o_L.2.1, o_L.2.2.1, o_L.2.2.2.1, o_L.1, o_L.2.2.2.2.2) o_N o_T o_U o_O o_E o_Q o_V o_I ++ wMC cI ad o_C ++ wMX cI ad o_X ++ wMN cI ad o_N) := hD
  refine lv_aload_n hx hb dX8_step_8 rfl (lv_at hl 0 rfl) ?_
  obtain ⟨r1, hcr1, hM⟩ := ob_use hM
  refine cl_V (As := []) (rest := []) (wM0 ad o_X r1 o_N o_T o_U o_O o_E o_Q o_V o_I ++ wMC cI ad o_C ++ wMX cI ad o_X ++ wMN cI ad o_N) [] ⟨hx, hb, hml, hown, hts⟩ (c_Model_skip l D cI sd ad o_C o_N o_T o_U o_O o_E o_Q o_V o_I o_X (o_L.1, o_L.2.1, o_L.2.2.1, o_L.2.2.2.1, o_L.1, o_L.2.2.2.2.2) r1 hcr1) (cwV2 hts q1155 mvX8_skip rfl rfl ⟨(Nat.le_of_ble_eq_true rfl), (Nat.le_of_ble_eq_true rfl)⟩) hK hE hA hP hD hS 0 (T := TX8) (N := 48) (ci := 8) rfl rfl [0, 5] rfl (by decide) rfl rfl rfl rfl rfl rfl hl.1 (Nat.le_of_ble_eq_true rfl) dX8_step_9 ⟨Nat.zero_le _, Nat.zero_le _⟩ (fun H locs hP hD hS => ?_)
  refine lv_aload_n hx hb dX8_step_12 rfl (lv_at hl 0 rfl) ?_
  refine lv_aload_n hx hb dX8_step_13 rfl (lv_at hl 0 rfl) ?_
  refine va_get (D := D) (ci := 8) (v := .int r1.2.2.2.1) (C := RX8) (T := TX8) (N := 48) hx hb hts layX8 hown hK hP 0 rfl rfl 9 (by decide) (hts _ (inA q987)) (fun _ h9 => h9) rfl dX8_step_14 ?_
  refine lv_aload_n hx hb dX8_step_17 rfl (lv_at hl 0 rfl) ?_
  refine va_get (D := D) (ci := 8) (v := .int o_X.1) (C := RX8) (T := TX8) (N := 48) hx hb hts layX8 hown hK hP 0 rfl rfl 4 (by decide) (hts _ (inA q982)) (fun _ h9 => h9) rfl dX8_step_18 ?_
  refine lv_icmp_ge (tgt := 31) hx hb dX8_step_21 (by decide) (fun c2 => ?_) (fun c2 => ?_)
  · replace hM := if_t c2 hM
    refine lv_aload_n hx hb dX8_step_31 rfl (lv_at hl 0 rfl) ?_
    refine va_get (D := D) (ci := 8) (v := .int o_X.1) (C := RX8) (T := TX8) (N := 48) hx hb hts layX8 hown hK hP 0 rfl rfl 4 (by decide) (hts _ (inA q982)) (fun _ h9 => h9) rfl dX8_step_32 ?_
    refine va_put (D := D) (ci := 8) (v := .int o_X.1) (ty := .int) (C := RX8) (T := TX8) (N := 48) hx hb hts layX8 tyX8 tyX8_ok nmX8 hown hK hP hD hS 0 rfl rfl 6 (by decide) (hts _ (inA q984)) (fun _ h9 => h9) rfl (by decide +kernel) rfl rfl (Nat.le_of_ble_eq_true rfl) dX8_step_35 (fun H locs hP hD hS => ?_)
    have hP : va_P D vwCl (wM0 ad o_X (o_X.1, r1.2) o_N o_T o_U o_O o_E o_Q o_V o_I ++ wMC cI ad o_C ++ wMX cI ad o_X ++ wMN cI ad o_N) H := hP
    have hD : va_D A (wM0 ad o_X (o_X.1, r1.2) o_N o_T o_U o_O o_E o_Q o_V o_I ++ wMC cI ad o_C ++ wMX cI ad o_X ++ wMN cI ad o_N) := hD
    refine lv_aload_n hx hb dX8_step_38 rfl (lv_at hl 0 rfl) ?_
    refine va_get (D := D) (ci := 8) (v := .int r1.2.2.2.2.2.1) (C := RX8) (T := TX8) (N := 48) hx hb hts layX8 hown hK hP 0 rfl rfl 11 (by decide) (hts _ (inA q989)) (fun _ h9 => h9) rfl dX8_step_39 ?_
    refine lv_if_le (tgt := 46) hx hb dX8_step_42 (by decide) (fun c3 => ?_) (fun c3 => ?_)
    · replace hM := if_t c3 hM
      refine lv_aload_n hx hb dX8_step_46 rfl (lv_at hl 0 rfl) ?_
      refine lv_aload_n hx hb dX8_step_47 rfl (lv_at hl 0 rfl) ?_
      refine va_get (D := D) (ci := 8) (v := .int o_X.1) (C := RX8) (T := TX8) (N := 48) hx hb hts layX8 hown hK hP 0 rfl rfl 6 (by decide) (hts _ (inA q984)) (fun _ h9 => h9) rfl dX8_step_48 ?_
      obtain ⟨r4, hcr4, hM⟩ := ob_use hM
      refine cl_V (As := [.int o_X.1]) (rest := []) (wM0 ad o_X (o_X.1, r1.2) o_N o_T o_U o_O o_E o_Q o_V o_I ++ wMC cI ad o_C ++ wMX cI ad o_X ++ wMN cI ad o_N) (.int r4 :: []) ⟨hx, hb, hml, hown, hts⟩ (c_Model_at l D cI sd ad o_C (o_X.1, r1.2) o_N o_T o_U o_O o_E o_Q o_V o_I o_X o_X.1 r4 hcr4) (cwV2 hts q1159 mvX8_at rfl rfl ⟨(Nat.le_of_ble_eq_true rfl), (Nat.le_of_ble_eq_true rfl)⟩) hK hE hA hP hD hS 0 (T := TX8) (N := 48) (ci := 8) rfl rfl [0, 5] rfl (by decide) rfl rfl rfl rfl rfl rfl hl.1 (Nat.le_of_ble_eq_true rfl) dX8_step_51 ⟨Nat.zero_le _, Nat.zero_le _⟩ (fun H locs hP hD hS => ?_)
      refine lv_istore_n (lv' := [(1, .int r4), (0, .ref (ad 100))]) hx hb dX8_step_54 rfl hl (by decide) rfl (fun ls hl => ?_)
      refine lv_iload_n hx hb dX8_step_55 rfl (lv_at hl 0 rfl) ?_
      refine lv_iconst (v := (-1)) hx hb dX8_step_56 (by decide) ?_
      refine lv_icmp_ne (tgt := 69) hx hb dX8_step_57 (by decide) (fun c5 => ?_) (fun c5 => ?_)
      · replace hM := if_f c5 hM
        refine lv_iload_n hx hb dX8_step_69 rfl (lv_at hl 0 rfl) ?_
        refine lv_bipush (v := 84) hx hb dX8_step_70 (by decide) ?_
        refine lv_icmp_eq (tgt := 81) hx hb dX8_step_72 (by decide) (fun c6 => ?_) (fun c6 => ?_)
        · replace hM := if_t c6 hM
          refine lv_aload_n hx hb dX8_step_81 rfl (lv_at hl 1 rfl) ?_
          refine lv_aload_n hx hb dX8_step_82 rfl (lv_at hl 1 rfl) ?_
          refine va_get (D := D) (ci := 8) (v := .int o_X.1) (C := RX8) (T := TX8) (N := 48) hx hb hts layX8 hown hK hP 0 rfl rfl 6 (by decide) (hts _ (inA q984)) (fun _ h9 => h9) rfl dX8_step_83 ?_
          refine lv_iconst (v := 1) hx hb dX8_step_86 (by decide) ?_
          refine lv_iadd hx hb dX8_step_87 ?_
          obtain ⟨r7, hcr7, hM⟩ := ob_use hM
          refine cl_V (As := [.int (o_X.1 + 1)]) (rest := []) (wM0 ad o_X (o_X.1, r1.2) o_N o_T o_U o_O o_E o_Q o_V o_I ++ wMC cI ad o_C ++ wMX cI ad o_X ++ wMN cI ad o_N) (.int r7 :: []) ⟨hx, hb, hml, hown, hts⟩ (c_Model_at l D cI sd ad o_C (o_X.1, r1.2) o_N o_T o_U o_O o_E o_Q o_V o_I o_X (o_X.1 + 1) r7 hcr7) (cwV2 hts q1159 mvX8_at rfl rfl ⟨(Nat.le_of_ble_eq_true rfl), (Nat.le_of_ble_eq_true rfl)⟩) hK hE hA hP hD hS 0 (T := TX8) (N := 48) (ci := 8) rfl rfl [0, 5] rfl (by decide) rfl rfl rfl rfl rfl rfl hl.1 (Nat.le_of_ble_eq_true rfl) dX8_step_88 ⟨Nat.zero_le _, Nat.zero_le _⟩ (fun H locs hP hD hS => ?_)
          refine lv_bipush (v := 35) hx hb dX8_step_91 (by decide) ?_
          refine lv_icmp_ne (tgt := 104) hx hb dX8_step_93 (by decide) (fun c8 => ?_) (fun c8 => ?_)
          · replace hM := if_f c8 hM
            refine lv_iload_n hx hb dX8_step_104 rfl (lv_at hl 0 rfl) ?_
            obtain ⟨r9, hcr9, hM⟩ := ob_use hM
            refine cl_S (As := [.int r4]) (rest := []) (wM0 ad o_X (o_X.1, r1.2) o_N o_T o_U o_O o_E o_Q o_V o_I ++ wMC cI ad o_C ++ wMX cI ad o_X ++ wMN cI ad o_N) (.int r9 :: []) ⟨hx, hb, hml, hown, hts⟩ (c_Model_isLetter l D cI sd ad r4 r9 hcr9) (cwS2 hts q1199 mvX8_isLetter rfl rfl ⟨(Nat.le_of_ble_eq_true rfl), (Nat.le_of_ble_eq_true rfl)⟩) hK hE hA hP hD hS [] rfl (by decide) rfl rfl rfl rfl rfl rfl hl.1 (Nat.le_of_ble_eq_true rfl) dX8_step_105 ⟨Nat.zero_le _, Nat.zero_le _⟩ (fun H locs hP hD hS => ?_)
            refine lv_if_eq (tgt := 118) hx hb dX8_step_108 (by decide) (fun c10 => ?_) (fun c10 => ?_)
            · replace hM := if_t c10 hM
              refine lv_iload_n hx hb dX8_step_118 rfl (lv_at hl 0 rfl) ?_
              obtain ⟨r11, hcr11, hM⟩ := ob_use hM
              refine cl_S (As := [.int r4]) (rest := []) (wM0 ad o_X (o_X.1, r1.2) o_N o_T o_U o_O o_E o_Q o_V o_I ++ wMC cI ad o_C ++ wMX cI ad o_X ++ wMN cI ad o_N) (.int r11 :: []) ⟨hx, hb, hml, hown, hts⟩ (c_Model_isDigit l D cI sd ad r4 r11 hcr11) (cwS2 hts q1181 mvX8_isDigit rfl rfl ⟨(Nat.le_of_ble_eq_true rfl), (Nat.le_of_ble_eq_true rfl)⟩) hK hE hA hP hD hS [] rfl (by decide) rfl rfl rfl rfl rfl rfl hl.1 (Nat.le_of_ble_eq_true rfl) dX8_step_119 ⟨Nat.zero_le _, Nat.zero_le _⟩ (fun H locs hP hD hS => ?_)
              refine lv_if_eq (tgt := 133) hx hb dX8_step_122 (by decide) (fun c12 => ?_) (fun c12 => ?_)
              · replace hM := if_t c12 hM
                refine lv_iload_n hx hb dX8_step_133 rfl (lv_at hl 0 rfl) ?_
                refine lv_bipush (v := 37) hx hb dX8_step_134 (by decide) ?_
                refine lv_icmp_ne (tgt := 146) hx hb dX8_step_136 (by decide) (fun c13 => ?_) (fun c13 => ?_)
                · replace hM := if_f c13 hM
                  refine lv_aload_n hx hb dX8_step_146 rfl (lv_at hl 1 rfl) ?_
                  obtain ⟨r14, hcr14, hM⟩ := ob_use hM
                  refine cl_V (As := []) (rest := []) (wM0 ad o_X r14 o_N o_T o_U o_O o_E o_Q o_V o_I ++ wMC cI ad o_C ++ wMX cI ad o_X ++ wMN cI ad o_N) [] ⟨hx, hb, hml, hown, hts⟩ (c_Model_readSign l D cI sd ad o_N o_T o_U o_O o_E o_Q o_V o_I o_C o_X (o_X.1, r1.2) r14 hcr14) (cwV2 hts q1221 mvX8_readSign rfl rfl ⟨(Nat.le_of_ble_eq_true rfl), (Nat.le_of_ble_eq_true rfl)⟩) hK hE hA hP hD hS 0 (T := TX8) (N := 48) (ci := 8) rfl rfl [0, 1, 2, 3, 4, 5] rfl (by decide) rfl rfl rfl rfl rfl rfl hl.1 (Nat.le_of_ble_eq_true rfl) dX8_step_147 ⟨Nat.zero_le _, Nat.zero_le _⟩ (fun H locs hP hD hS => ?_)
                  cases hM
                  exact rt_v hx hb hr hlk hP hD hS rfl dX8_step_150
                · replace hM := if_t c13 hM
                  refine lv_aload_n hx hb dX8_step_139 rfl (lv_at hl 1 rfl) ?_
                  obtain ⟨r15, hcr15, hM⟩ := ob_use hM
                  refine cl_V (As := []) (rest := []) (wM0 ad o_X r15 o_N o_T o_U o_O o_E o_Q o_V o_I ++ wMC cI ad o_C ++ wMX cI ad o_X ++ wMN cI ad o_N) [] ⟨hx, hb, hml, hown, hts⟩ (c_Model_readPlace l D cI sd ad o_N o_T o_U o_O o_E o_Q o_V o_I o_C o_X (o_X.1, r1.2) r15 hcr15) (cwV2 hts q1215 mvX8_readPlace rfl rfl ⟨(Nat.le_of_ble_eq_true rfl), (Nat.le_of_ble_eq_true rfl)⟩) hK hE hA hP hD hS 0 (T := TX8) (N := 48) (ci := 8) rfl rfl [0, 1, 2, 3, 4, 5] rfl (by decide) rfl rfl rfl rfl rfl rfl hl.1 (Nat.le_of_ble_eq_true rfl) dX8_step_140 ⟨Nat.zero_le _, Nat.zero_le _⟩ (fun H locs hP hD hS => ?_)
                  refine lv_goto (tgt := 150) hx hb dX8_step_143 (by decide) ?_
                  cases hM
                  exact rt_v hx hb hr hlk hP hD hS rfl dX8_step_150
              · replace hM := if_f c12 hM
                refine lv_aload_n hx hb dX8_step_125 rfl (lv_at hl 1 rfl) ?_
                refine lv_iconst (v := 0) hx hb dX8_step_126 (by decide) ?_
                obtain ⟨r16, hcr16, hM⟩ := ob_use hM
                refine cl_V (As := [.int 0]) (rest := []) (wM0 ad o_X r16 o_N o_T o_U o_O o_E o_Q o_V o_I ++ wMC cI ad o_C ++ wMX cI ad o_X ++ wMN cI ad o_N) [] ⟨hx, hb, hml, hown, hts⟩ (c_Model_readNumber l D cI sd ad o_C o_N o_T o_U o_O o_E o_Q o_V o_I o_X (o_X.1, r1.2) 0 r16 hcr16) (cwV2 hts q1167 mvX8_readNumber rfl rfl ⟨(Nat.le_of_ble_eq_true rfl), (Nat.le_of_ble_eq_true rfl)⟩) hK hE hA hP hD hS 0 (T := TX8) (N := 48) (ci := 8) rfl rfl [0, 5] rfl (by decide) rfl rfl rfl rfl rfl rfl hl.1 (Nat.le_of_ble_eq_true rfl) dX8_step_127 ⟨Nat.zero_le _, Nat.zero_le _⟩ (fun H locs hP hD hS => ?_)
                refine lv_goto (tgt := 150) hx hb dX8_step_130 (by decide) ?_
                cases hM
                exact rt_v hx hb hr hlk hP hD hS rfl dX8_step_150
            · replace hM := if_f c10 hM
              refine lv_aload_n hx hb dX8_step_111 rfl (lv_at hl 1 rfl) ?_
              obtain ⟨r17, hcr17, hM⟩ := ob_use hM
              refine cl_V (As := []) (rest := []) (wM0 ad o_X r17.1 r17.2 o_T o_U o_O o_E o_Q o_V o_I ++ wMC cI ad o_C ++ wMX cI ad o_X ++ wMN cI ad r17.2) [] ⟨hx, hb, hml, hown, hts⟩ (c_Model_readName l D cI sd ad o_T o_U o_O o_E o_Q o_V o_I o_C o_X (o_X.1, r1.2) o_N r17 hcr17) (cwV2 hts q1203 mvX8_readName rfl rfl ⟨(Nat.le_of_ble_eq_true rfl), (Nat.le_of_ble_eq_true rfl)⟩) hK hE hA hP hD hS 0 (T := TX8) (N := 48) (ci := 8) rfl rfl [0, 1, 2, 3, 4, 5, 6, 7] rfl (by decide) rfl rfl rfl rfl rfl rfl hl.1 (Nat.le_of_ble_eq_true rfl) dX8_step_112 ⟨Nat.zero_le _, Nat.zero_le _⟩ (fun H locs hP hD hS => ?_)
              refine lv_goto (tgt := 150) hx hb dX8_step_115 (by decide) ?_
              cases hM
              exact rt_v hx hb hr hlk hP hD hS rfl dX8_step_150
          · replace hM := if_t c8 hM
            refine lv_aload_n hx hb dX8_step_96 rfl (lv_at hl 1 rfl) ?_
            refine lv_iconst (v := 1) hx hb dX8_step_97 (by decide) ?_
            obtain ⟨r18, hcr18, hM⟩ := ob_use hM
            refine cl_V (As := [.int 1]) (rest := []) (wM0 ad o_X r18 o_N o_T o_U o_O o_E o_Q o_V o_I ++ wMC cI ad o_C ++ wMX cI ad o_X ++ wMN cI ad o_N) [] ⟨hx, hb, hml, hown, hts⟩ (c_Model_readNumber l D cI sd ad o_C o_N o_T o_U o_O o_E o_Q o_V o_I o_X (o_X.1, r1.2) 1 r18 hcr18) (cwV2 hts q1167 mvX8_readNumber rfl rfl ⟨(Nat.le_of_ble_eq_true rfl), (Nat.le_of_ble_eq_true rfl)⟩) hK hE hA hP hD hS 0 (T := TX8) (N := 48) (ci := 8) rfl rfl [0, 5] rfl (by decide) rfl rfl rfl rfl rfl rfl hl.1 (Nat.le_of_ble_eq_true rfl) dX8_step_98 ⟨Nat.zero_le _, Nat.zero_le _⟩ (fun H locs hP hD hS => ?_)
            refine lv_goto (tgt := 150) hx hb dX8_step_101 (by decide) ?_
            cases hM
            exact rt_v hx hb hr hlk hP hD hS rfl dX8_step_150
        · replace hM := if_f c6 hM
          refine lv_iload_n hx hb dX8_step_75 rfl (lv_at hl 0 rfl) ?_
          refine lv_bipush (v := 116) hx hb dX8_step_76 (by decide) ?_
          refine lv_icmp_ne (tgt := 104) hx hb dX8_step_78 (by decide) (fun c19 => ?_) (fun c19 => ?_)
          · replace hM := if_f c19 hM
            refine lv_iload_n hx hb dX8_step_104 rfl (lv_at hl 0 rfl) ?_
            obtain ⟨r20, hcr20, hM⟩ := ob_use hM
            refine cl_S (As := [.int r4]) (rest := []) (wM0 ad o_X (o_X.1, r1.2) o_N o_T o_U o_O o_E o_Q o_V o_I ++ wMC cI ad o_C ++ wMX cI ad o_X ++ wMN cI ad o_N) (.int r20 :: []) ⟨hx, hb, hml, hown, hts⟩ (c_Model_isLetter l D cI sd ad r4 r20 hcr20) (cwS2 hts q1199 mvX8_isLetter rfl rfl ⟨(Nat.le_of_ble_eq_true rfl), (Nat.le_of_ble_eq_true rfl)⟩) hK hE hA hP hD hS [] rfl (by decide) rfl rfl rfl rfl rfl rfl hl.1 (Nat.le_of_ble_eq_true rfl) dX8_step_105 ⟨Nat.zero_le _, Nat.zero_le _⟩ (fun H locs hP hD hS => ?_)
            refine lv_if_eq (tgt := 118) hx hb dX8_step_108 (by decide) (fun c21 => ?_) (fun c21 => ?_)
            · replace hM := if_t c21 hM
              refine lv_iload_n hx hb dX8_step_118 rfl (lv_at hl 0 rfl) ?_
              obtain ⟨r22, hcr22, hM⟩ := ob_use hM
              refine cl_S (As := [.int r4]) (rest := []) (wM0 ad o_X (o_X.1, r1.2) o_N o_T o_U o_O o_E o_Q o_V o_I ++ wMC cI ad o_C ++ wMX cI ad o_X ++ wMN cI ad o_N) (.int r22 :: []) ⟨hx, hb, hml, hown, hts⟩ (c_Model_isDigit l D cI sd ad r4 r22 hcr22) (cwS2 hts q1181 mvX8_isDigit rfl rfl ⟨(Nat.le_of_ble_eq_true rfl), (Nat.le_of_ble_eq_true rfl)⟩) hK hE hA hP hD hS [] rfl (by decide) rfl rfl rfl rfl rfl rfl hl.1 (Nat.le_of_ble_eq_true rfl) dX8_step_119 ⟨Nat.zero_le _, Nat.zero_le _⟩ (fun H locs hP hD hS => ?_)
              refine lv_if_eq (tgt := 133) hx hb dX8_step_122 (by decide) (fun c23 => ?_) (fun c23 => ?_)
              · replace hM := if_t c23 hM
                refine lv_iload_n hx hb dX8_step_133 rfl (lv_at hl 0 rfl) ?_
                refine lv_bipush (v := 37) hx hb dX8_step_134 (by decide) ?_
                refine lv_icmp_ne (tgt := 146) hx hb dX8_step_136 (by decide) (fun c24 => ?_) (fun c24 => ?_)
                · replace hM := if_f c24 hM
                  refine lv_aload_n hx hb dX8_step_146 rfl (lv_at hl 1 rfl) ?_
                  obtain ⟨r25, hcr25, hM⟩ := ob_use hM
                  refine cl_V (As := []) (rest := []) (wM0 ad o_X r25 o_N o_T o_U o_O o_E o_Q o_V o_I ++ wMC cI ad o_C ++ wMX cI ad o_X ++ wMN cI ad o_N) [] ⟨hx, hb, hml, hown, hts⟩ (c_Model_readSign l D cI sd ad o_N o_T o_U o_O o_E o_Q o_V o_I o_C o_X (o_X.1, r1.2) r25 hcr25) (cwV2 hts q1221 mvX8_readSign rfl rfl ⟨(Nat.le_of_ble_eq_true rfl), (Nat.le_of_ble_eq_true rfl)⟩) hK hE hA hP hD hS 0 (T := TX8) (N := 48) (ci := 8) rfl rfl [0, 1, 2, 3, 4, 5] rfl (by decide) rfl rfl rfl rfl rfl rfl hl.1 (Nat.le_of_ble_eq_true rfl) dX8_step_147 ⟨Nat.zero_le _, Nat.zero_le _⟩ (fun H locs hP hD hS => ?_)
                  cases hM
                  exact rt_v hx hb hr hlk hP hD hS rfl dX8_step_150
                · replace hM := if_t c24 hM
                  refine lv_aload_n hx hb dX8_step_139 rfl (lv_at hl 1 rfl) ?_
                  obtain ⟨r26, hcr26, hM⟩ := ob_use hM
                  refine cl_V (As := []) (rest := []) (wM0 ad o_X r26 o_N o_T o_U o_O o_E o_Q o_V o_I ++ wMC cI ad o_C ++ wMX cI ad o_X ++ wMN cI ad o_N) [] ⟨hx, hb, hml, hown, hts⟩ (c_Model_readPlace l D cI sd ad o_N o_T o_U o_O o_E o_Q o_V o_I o_C o_X (o_X.1, r1.2) r26 hcr26) (cwV2 hts q1215 mvX8_readPlace rfl rfl ⟨(Nat.le_of_ble_eq_true rfl), (Nat.le_of_ble_eq_true rfl)⟩) hK hE hA hP hD hS 0 (T := TX8) (N := 48) (ci := 8) rfl rfl [0, 1, 2, 3, 4, 5] rfl (by decide) rfl rfl rfl rfl rfl rfl hl.1 (Nat.le_of_ble_eq_true rfl) dX8_step_140 ⟨Nat.zero_le _, Nat.zero_le _⟩ (fun H locs hP hD hS => ?_)
                  refine lv_goto (tgt := 150) hx hb dX8_step_143 (by decide) ?_
                  cases hM
                  exact rt_v hx hb hr hlk hP hD hS rfl dX8_step_150
              · replace hM := if_f c23 hM
                refine lv_aload_n hx hb dX8_step_125 rfl (lv_at hl 1 rfl) ?_
                refine lv_iconst (v := 0) hx hb dX8_step_126 (by decide) ?_
                obtain ⟨r27, hcr27, hM⟩ := ob_use hM
                refine cl_V (As := [.int 0]) (rest := []) (wM0 ad o_X r27 o_N o_T o_U o_O o_E o_Q o_V o_I ++ wMC cI ad o_C ++ wMX cI ad o_X ++ wMN cI ad o_N) [] ⟨hx, hb, hml, hown, hts⟩ (c_Model_readNumber l D cI sd ad o_C o_N o_T o_U o_O o_E o_Q o_V o_I o_X (o_X.1, r1.2) 0 r27 hcr27) (cwV2 hts q1167 mvX8_readNumber rfl rfl ⟨(Nat.le_of_ble_eq_true rfl), (Nat.le_of_ble_eq_true rfl)⟩) hK hE hA hP hD hS 0 (T := TX8) (N := 48) (ci := 8) rfl rfl [0, 5] rfl (by decide) rfl rfl rfl rfl rfl rfl hl.1 (Nat.le_of_ble_eq_true rfl) dX8_step_127 ⟨Nat.zero_le _, Nat.zero_le _⟩ (fun H locs hP hD hS => ?_)
                refine lv_goto (tgt := 150) hx hb dX8_step_130 (by decide) ?_
                cases hM
                exact rt_v hx hb hr hlk hP hD hS rfl dX8_step_150
            · replace hM := if_f c21 hM
              refine lv_aload_n hx hb dX8_step_111 rfl (lv_at hl 1 rfl) ?_
              obtain ⟨r28, hcr28, hM⟩ := ob_use hM
              refine cl_V (As := []) (rest := []) (wM0 ad o_X r28.1 r28.2 o_T o_U o_O o_E o_Q o_V o_I ++ wMC cI ad o_C ++ wMX cI ad o_X ++ wMN cI ad r28.2) [] ⟨hx, hb, hml, hown, hts⟩ (c_Model_readName l D cI sd ad o_T o_U o_O o_E o_Q o_V o_I o_C o_X (o_X.1, r1.2) o_N r28 hcr28) (cwV2 hts q1203 mvX8_readName rfl rfl ⟨(Nat.le_of_ble_eq_true rfl), (Nat.le_of_ble_eq_true rfl)⟩) hK hE hA hP hD hS 0 (T := TX8) (N := 48) (ci := 8) rfl rfl [0, 1, 2, 3, 4, 5, 6, 7] rfl (by decide) rfl rfl rfl rfl rfl rfl hl.1 (Nat.le_of_ble_eq_true rfl) dX8_step_112 ⟨Nat.zero_le _, Nat.zero_le _⟩ (fun H locs hP hD hS => ?_)
              refine lv_goto (tgt := 150) hx hb dX8_step_115 (by decide) ?_
              cases hM
              exact rt_v hx hb hr hlk hP hD hS rfl dX8_step_150
          · replace hM := if_t c19 hM
            refine lv_aload_n hx hb dX8_step_81 rfl (lv_at hl 1 rfl) ?_
            refine lv_aload_n hx hb dX8_step_82 rfl (lv_at hl 1 rfl) ?_
            refine va_get (D := D) (ci := 8) (v := .int o_X.1) (C := RX8) (T := TX8) (N := 48) hx hb hts layX8 hown hK hP 0 rfl rfl 6 (by decide) (hts _ (inA q984)) (fun _ h9 => h9) rfl dX8_step_83 ?_
            refine lv_iconst (v := 1) hx hb dX8_step_86 (by decide) ?_
            refine lv_iadd hx hb dX8_step_87 ?_
            obtain ⟨r29, hcr29, hM⟩ := ob_use hM
            refine cl_V (As := [.int (o_X.1 + 1)]) (rest := []) (wM0 ad o_X (o_X.1, r1.2) o_N o_T o_U o_O o_E o_Q o_V o_I ++ wMC cI ad o_C ++ wMX cI ad o_X ++ wMN cI ad o_N) (.int r29 :: []) ⟨hx, hb, hml, hown, hts⟩ (c_Model_at l D cI sd ad o_C (o_X.1, r1.2) o_N o_T o_U o_O o_E o_Q o_V o_I o_X (o_X.1 + 1) r29 hcr29) (cwV2 hts q1159 mvX8_at rfl rfl ⟨(Nat.le_of_ble_eq_true rfl), (Nat.le_of_ble_eq_true rfl)⟩) hK hE hA hP hD hS 0 (T := TX8) (N := 48) (ci := 8) rfl rfl [0, 5] rfl (by decide) rfl rfl rfl rfl rfl rfl hl.1 (Nat.le_of_ble_eq_true rfl) dX8_step_88 ⟨Nat.zero_le _, Nat.zero_le _⟩ (fun H locs hP hD hS => ?_)
            refine lv_bipush (v := 35) hx hb dX8_step_91 (by decide) ?_
            refine lv_icmp_ne (tgt := 104) hx hb dX8_step_93 (by decide) (fun c30 => ?_) (fun c30 => ?_)
            · replace hM := if_f c30 hM
              refine lv_iload_n hx hb dX8_step_104 rfl (lv_at hl 0 rfl) ?_
              obtain ⟨r31, hcr31, hM⟩ := ob_use hM
              refine cl_S (As := [.int r4]) (rest := []) (wM0 ad o_X (o_X.1, r1.2) o_N o_T o_U o_O o_E o_Q o_V o_I ++ wMC cI ad o_C ++ wMX cI ad o_X ++ wMN cI ad o_N) (.int r31 :: []) ⟨hx, hb, hml, hown, hts⟩ (c_Model_isLetter l D cI sd ad r4 r31 hcr31) (cwS2 hts q1199 mvX8_isLetter rfl rfl ⟨(Nat.le_of_ble_eq_true rfl), (Nat.le_of_ble_eq_true rfl)⟩) hK hE hA hP hD hS [] rfl (by decide) rfl rfl rfl rfl rfl rfl hl.1 (Nat.le_of_ble_eq_true rfl) dX8_step_105 ⟨Nat.zero_le _, Nat.zero_le _⟩ (fun H locs hP hD hS => ?_)
              refine lv_if_eq (tgt := 118) hx hb dX8_step_108 (by decide) (fun c32 => ?_) (fun c32 => ?_)
              · replace hM := if_t c32 hM
                refine lv_iload_n hx hb dX8_step_118 rfl (lv_at hl 0 rfl) ?_
                obtain ⟨r33, hcr33, hM⟩ := ob_use hM
                refine cl_S (As := [.int r4]) (rest := []) (wM0 ad o_X (o_X.1, r1.2) o_N o_T o_U o_O o_E o_Q o_V o_I ++ wMC cI ad o_C ++ wMX cI ad o_X ++ wMN cI ad o_N) (.int r33 :: []) ⟨hx, hb, hml, hown, hts⟩ (c_Model_isDigit l D cI sd ad r4 r33 hcr33) (cwS2 hts q1181 mvX8_isDigit rfl rfl ⟨(Nat.le_of_ble_eq_true rfl), (Nat.le_of_ble_eq_true rfl)⟩) hK hE hA hP hD hS [] rfl (by decide) rfl rfl rfl rfl rfl rfl hl.1 (Nat.le_of_ble_eq_true rfl) dX8_step_119 ⟨Nat.zero_le _, Nat.zero_le _⟩ (fun H locs hP hD hS => ?_)
                refine lv_if_eq (tgt := 133) hx hb dX8_step_122 (by decide) (fun c34 => ?_) (fun c34 => ?_)
                · replace hM := if_t c34 hM
                  refine lv_iload_n hx hb dX8_step_133 rfl (lv_at hl 0 rfl) ?_
                  refine lv_bipush (v := 37) hx hb dX8_step_134 (by decide) ?_
                  refine lv_icmp_ne (tgt := 146) hx hb dX8_step_136 (by decide) (fun c35 => ?_) (fun c35 => ?_)
                  · replace hM := if_f c35 hM
                    refine lv_aload_n hx hb dX8_step_146 rfl (lv_at hl 1 rfl) ?_
                    obtain ⟨r36, hcr36, hM⟩ := ob_use hM
                    refine cl_V (As := []) (rest := []) (wM0 ad o_X r36 o_N o_T o_U o_O o_E o_Q o_V o_I ++ wMC cI ad o_C ++ wMX cI ad o_X ++ wMN cI ad o_N) [] ⟨hx, hb, hml, hown, hts⟩ (c_Model_readSign l D cI sd ad o_N o_T o_U o_O o_E o_Q o_V o_I o_C o_X (o_X.1, r1.2) r36 hcr36) (cwV2 hts q1221 mvX8_readSign rfl rfl ⟨(Nat.le_of_ble_eq_true rfl), (Nat.le_of_ble_eq_true rfl)⟩) hK hE hA hP hD hS 0 (T := TX8) (N := 48) (ci := 8) rfl rfl [0, 1, 2, 3, 4, 5] rfl (by decide) rfl rfl rfl rfl rfl rfl hl.1 (Nat.le_of_ble_eq_true rfl) dX8_step_147 ⟨Nat.zero_le _, Nat.zero_le _⟩ (fun H locs hP hD hS => ?_)
                    cases hM
                    exact rt_v hx hb hr hlk hP hD hS rfl dX8_step_150
                  · replace hM := if_t c35 hM
                    refine lv_aload_n hx hb dX8_step_139 rfl (lv_at hl 1 rfl) ?_
                    obtain ⟨r37, hcr37, hM⟩ := ob_use hM
                    refine cl_V (As := []) (rest := []) (wM0 ad o_X r37 o_N o_T o_U o_O o_E o_Q o_V o_I ++ wMC cI ad o_C ++ wMX cI ad o_X ++ wMN cI ad o_N) [] ⟨hx, hb, hml, hown, hts⟩ (c_Model_readPlace l D cI sd ad o_N o_T o_U o_O o_E o_Q o_V o_I o_C o_X (o_X.1, r1.2) r37 hcr37) (cwV2 hts q1215 mvX8_readPlace rfl rfl ⟨(Nat.le_of_ble_eq_true rfl), (Nat.le_of_ble_eq_true rfl)⟩) hK hE hA hP hD hS 0 (T := TX8) (N := 48) (ci := 8) rfl rfl [0, 1, 2, 3, 4, 5] rfl (by decide) rfl rfl rfl rfl rfl rfl hl.1 (Nat.le_of_ble_eq_true rfl) dX8_step_140 ⟨Nat.zero_le _, Nat.zero_le _⟩ (fun H locs hP hD hS => ?_)
                    refine lv_goto (tgt := 150) hx hb dX8_step_143 (by decide) ?_
                    cases hM
                    exact rt_v hx hb hr hlk hP hD hS rfl dX8_step_150
                · replace hM := if_f c34 hM
                  refine lv_aload_n hx hb dX8_step_125 rfl (lv_at hl 1 rfl) ?_
                  refine lv_iconst (v := 0) hx hb dX8_step_126 (by decide) ?_
                  obtain ⟨r38, hcr38, hM⟩ := ob_use hM
                  refine cl_V (As := [.int 0]) (rest := []) (wM0 ad o_X r38 o_N o_T o_U o_O o_E o_Q o_V o_I ++ wMC cI ad o_C ++ wMX cI ad o_X ++ wMN cI ad o_N) [] ⟨hx, hb, hml, hown, hts⟩ (c_Model_readNumber l D cI sd ad o_C o_N o_T o_U o_O o_E o_Q o_V o_I o_X (o_X.1, r1.2) 0 r38 hcr38) (cwV2 hts q1167 mvX8_readNumber rfl rfl ⟨(Nat.le_of_ble_eq_true rfl), (Nat.le_of_ble_eq_true rfl)⟩) hK hE hA hP hD hS 0 (T := TX8) (N := 48) (ci := 8) rfl rfl [0, 5] rfl (by decide) rfl rfl rfl rfl rfl rfl hl.1 (Nat.le_of_ble_eq_true rfl) dX8_step_127 ⟨Nat.zero_le _, Nat.zero_le _⟩ (fun H locs hP hD hS => ?_)
                  refine lv_goto (tgt := 150) hx hb dX8_step_130 (by decide) ?_
                  cases hM
                  exact rt_v hx hb hr hlk hP hD hS rfl dX8_step_150
              · replace hM := if_f c32 hM
                refine lv_aload_n hx hb dX8_step_111 rfl (lv_at hl 1 rfl) ?_
                obtain ⟨r39, hcr39, hM⟩ := ob_use hM
                refine cl_V (As := []) (rest := []) (wM0 ad o_X r39.1 r39.2 o_T o_U o_O o_E o_Q o_V o_I ++ wMC cI ad o_C ++ wMX cI ad o_X ++ wMN cI ad r39.2) [] ⟨hx, hb, hml, hown, hts⟩ (c_Model_readName l D cI sd ad o_T o_U o_O o_E o_Q o_V o_I o_C o_X (o_X.1, r1.2) o_N r39 hcr39) (cwV2 hts q1203 mvX8_readName rfl rfl ⟨(Nat.le_of_ble_eq_true rfl), (Nat.le_of_ble_eq_true rfl)⟩) hK hE hA hP hD hS 0 (T := TX8) (N := 48) (ci := 8) rfl rfl [0, 1, 2, 3, 4, 5, 6, 7] rfl (by decide) rfl rfl rfl rfl rfl rfl hl.1 (Nat.le_of_ble_eq_true rfl) dX8_step_112 ⟨Nat.zero_le _, Nat.zero_le _⟩ (fun H locs hP hD hS => ?_)
                refine lv_goto (tgt := 150) hx hb dX8_step_115 (by decide) ?_
                cases hM
                exact rt_v hx hb hr hlk hP hD hS rfl dX8_step_150
            · replace hM := if_t c30 hM
              refine lv_aload_n hx hb dX8_step_96 rfl (lv_at hl 1 rfl) ?_
              refine lv_iconst (v := 1) hx hb dX8_step_97 (by decide) ?_
              obtain ⟨r40, hcr40, hM⟩ := ob_use hM
              refine cl_V (As := [.int 1]) (rest := []) (wM0 ad o_X r40 o_N o_T o_U o_O o_E o_Q o_V o_I ++ wMC cI ad o_C ++ wMX cI ad o_X ++ wMN cI ad o_N) [] ⟨hx, hb, hml, hown, hts⟩ (c_Model_readNumber l D cI sd ad o_C o_N o_T o_U o_O o_E o_Q o_V o_I o_X (o_X.1, r1.2) 1 r40 hcr40) (cwV2 hts q1167 mvX8_readNumber rfl rfl ⟨(Nat.le_of_ble_eq_true rfl), (Nat.le_of_ble_eq_true rfl)⟩) hK hE hA hP hD hS 0 (T := TX8) (N := 48) (ci := 8) rfl rfl [0, 5] rfl (by decide) rfl rfl rfl rfl rfl rfl hl.1 (Nat.le_of_ble_eq_true rfl) dX8_step_98 ⟨Nat.zero_le _, Nat.zero_le _⟩ (fun H locs hP hD hS => ?_)
              refine lv_goto (tgt := 150) hx hb dX8_step_101 (by decide) ?_
              cases hM
              exact rt_v hx hb hr hlk hP hD hS rfl dX8_step_150
      · replace hM := if_t c5 hM
        refine lv_aload_n hx hb dX8_step_60 rfl (lv_at hl 1 rfl) ?_
        refine lv_bipush (v := 83) hx hb dX8_step_61 (by decide) ?_
        refine va_put (D := D) (ci := 8) (v := .int 83) (ty := .int) (C := RX8) (T := TX8) (N := 48) hx hb hts layX8 tyX8 tyX8_ok nmX8 hown hK hP hD hS 0 rfl rfl 7 (by decide) (hts _ (inA q985)) (fun _ h9 => h9) rfl (by decide +kernel) rfl rfl (Nat.le_of_ble_eq_true rfl) dX8_step_63 (fun H locs hP hD hS => ?_)
        have hP : va_P D vwCl (wM0 ad o_X (o_X.1, 83, r1.2.2) o_N o_T o_U o_O o_E o_Q o_V o_I ++ wMC cI ad o_C ++ wMX cI ad o_X ++ wMN cI ad o_N) H := hP
        have hD : va_D A (wM0 ad o_X (o_X.1, 83, r1.2.2) o_N o_T o_U o_O o_E o_Q o_V o_I ++ wMC cI ad o_C ++ wMX cI ad o_X ++ wMN cI ad o_N) := hD
        refine lv_goto (tgt := 150) hx hb dX8_step_66 (by decide) ?_
        cases hM
        exact rt_v hx hb hr hlk hP hD hS rfl dX8_step_150
    · replace hM := if_f c3 hM
      cases hM
      exact rt_v hx hb hr hlk hP hD hS rfl dX8_step_45
  · replace hM := if_f c2 hM
    refine lv_aload_n hx hb dX8_step_24 rfl (lv_at hl 0 rfl) ?_
    refine va_get (D := D) (ci := 8) (v := .int r1.2.2.2.1) (C := RX8) (T := TX8) (N := 48) hx hb hts layX8 hown hK hP 0 rfl rfl 9 (by decide) (hts _ (inA q987)) (fun _ h9 => h9) rfl dX8_step_25 ?_
    refine lv_goto (tgt := 35) hx hb dX8_step_28 (by decide) ?_
    refine va_put (D := D) (ci := 8) (v := .int r1.2.2.2.1) (ty := .int) (C := RX8) (T := TX8) (N := 48) hx hb hts layX8 tyX8 tyX8_ok nmX8 hown hK hP hD hS 0 rfl rfl 6 (by decide) (hts _ (inA q984)) (fun _ h9 => h9) rfl (by decide +kernel) rfl rfl (Nat.le_of_ble_eq_true rfl) dX8_step_35 (fun H locs hP hD hS => ?_)
    have hP : va_P D vwCl (wM0 ad o_X (r1.2.2.2.1, r1.2) o_N o_T o_U o_O o_E o_Q o_V o_I ++ wMC cI ad o_C ++ wMX cI ad o_X ++ wMN cI ad o_N) H := hP
    have hD : va_D A (wM0 ad o_X (r1.2.2.2.1, r1.2) o_N o_T o_U o_O o_E o_Q o_V o_I ++ wMC cI ad o_C ++ wMX cI ad o_X ++ wMN cI ad o_N) := hD
    refine lv_aload_n hx hb dX8_step_38 rfl (lv_at hl 0 rfl) ?_
    refine va_get (D := D) (ci := 8) (v := .int r1.2.2.2.2.2.1) (C := RX8) (T := TX8) (N := 48) hx hb hts layX8 hown hK hP 0 rfl rfl 11 (by decide) (hts _ (inA q989)) (fun _ h9 => h9) rfl dX8_step_39 ?_
    refine lv_if_le (tgt := 46) hx hb dX8_step_42 (by decide) (fun c41 => ?_) (fun c41 => ?_)
    · replace hM := if_t c41 hM
      refine lv_aload_n hx hb dX8_step_46 rfl (lv_at hl 0 rfl) ?_
      refine lv_aload_n hx hb dX8_step_47 rfl (lv_at hl 0 rfl) ?_
      refine va_get (D := D) (ci := 8) (v := .int r1.2.2.2.1) (C := RX8) (T := TX8) (N := 48) hx hb hts layX8 hown hK hP 0 rfl rfl 6 (by decide) (hts _ (inA q984)) (fun _ h9 => h9) rfl dX8_step_48 ?_
      obtain ⟨r42, hcr42, hM⟩ := ob_use hM
      refine cl_V (As := [.int r1.2.2.2.1]) (rest := []) (wM0 ad o_X (r1.2.2.2.1, r1.2) o_N o_T o_U o_O o_E o_Q o_V o_I ++ wMC cI ad o_C ++ wMX cI ad o_X ++ wMN cI ad o_N) (.int r42 :: []) ⟨hx, hb, hml, hown, hts⟩ (c_Model_at l D cI sd ad o_C (r1.2.2.2.1, r1.2) o_N o_T o_U o_O o_E o_Q o_V o_I o_X r1.2.2.2.1 r42 hcr42) (cwV2 hts q1159 mvX8_at rfl rfl ⟨(Nat.le_of_ble_eq_true rfl), (Nat.le_of_ble_eq_true rfl)⟩) hK hE hA hP hD hS 0 (T := TX8) (N := 48) (ci := 8) rfl rfl [0, 5] rfl (by decide) rfl rfl rfl rfl rfl rfl hl.1 (Nat.le_of_ble_eq_true rfl) dX8_step_51 ⟨Nat.zero_le _, Nat.zero_le _⟩ (fun H locs hP hD hS => ?_)
      refine lv_istore_n (lv' := [(1, .int r42), (0, .ref (ad 100))]) hx hb dX8_step_54 rfl hl (by decide) rfl (fun ls hl => ?_)
      refine lv_iload_n hx hb dX8_step_55 rfl (lv_at hl 0 rfl) ?_
      refine lv_iconst (v := (-1)) hx hb dX8_step_56 (by decide) ?_
      refine lv_icmp_ne (tgt := 69) hx hb dX8_step_57 (by decide) (fun c43 => ?_) (fun c43 => ?_)
      · replace hM := if_f c43 hM
        refine lv_iload_n hx hb dX8_step_69 rfl (lv_at hl 0 rfl) ?_
        refine lv_bipush (v := 84) hx hb dX8_step_70 (by decide) ?_
        refine lv_icmp_eq (tgt := 81) hx hb dX8_step_72 (by decide) (fun c44 => ?_) (fun c44 => ?_)
        · replace hM := if_t c44 hM
          refine lv_aload_n hx hb dX8_step_81 rfl (lv_at hl 1 rfl) ?_
          refine lv_aload_n hx hb dX8_step_82 rfl (lv_at hl 1 rfl) ?_
          refine va_get (D := D) (ci := 8) (v := .int r1.2.2.2.1) (C := RX8) (T := TX8) (N := 48) hx hb hts layX8 hown hK hP 0 rfl rfl 6 (by decide) (hts _ (inA q984)) (fun _ h9 => h9) rfl dX8_step_83 ?_
          refine lv_iconst (v := 1) hx hb dX8_step_86 (by decide) ?_
          refine lv_iadd hx hb dX8_step_87 ?_
          obtain ⟨r45, hcr45, hM⟩ := ob_use hM
          refine cl_V (As := [.int (r1.2.2.2.1 + 1)]) (rest := []) (wM0 ad o_X (r1.2.2.2.1, r1.2) o_N o_T o_U o_O o_E o_Q o_V o_I ++ wMC cI ad o_C ++ wMX cI ad o_X ++ wMN cI ad o_N) (.int r45 :: []) ⟨hx, hb, hml, hown, hts⟩ (c_Model_at l D cI sd ad o_C (r1.2.2.2.1, r1.2) o_N o_T o_U o_O o_E o_Q o_V o_I o_X (r1.2.2.2.1 + 1) r45 hcr45) (cwV2 hts q1159 mvX8_at rfl rfl ⟨(Nat.le_of_ble_eq_true rfl), (Nat.le_of_ble_eq_true rfl)⟩) hK hE hA hP hD hS 0 (T := TX8) (N := 48) (ci := 8) rfl rfl [0, 5] rfl (by decide) rfl rfl rfl rfl rfl rfl hl.1 (Nat.le_of_ble_eq_true rfl) dX8_step_88 ⟨Nat.zero_le _, Nat.zero_le _⟩ (fun H locs hP hD hS => ?_)
          refine lv_bipush (v := 35) hx hb dX8_step_91 (by decide) ?_
          refine lv_icmp_ne (tgt := 104) hx hb dX8_step_93 (by decide) (fun c46 => ?_) (fun c46 => ?_)
          · replace hM := if_f c46 hM
            refine lv_iload_n hx hb dX8_step_104 rfl (lv_at hl 0 rfl) ?_
            obtain ⟨r47, hcr47, hM⟩ := ob_use hM
            refine cl_S (As := [.int r42]) (rest := []) (wM0 ad o_X (r1.2.2.2.1, r1.2) o_N o_T o_U o_O o_E o_Q o_V o_I ++ wMC cI ad o_C ++ wMX cI ad o_X ++ wMN cI ad o_N) (.int r47 :: []) ⟨hx, hb, hml, hown, hts⟩ (c_Model_isLetter l D cI sd ad r42 r47 hcr47) (cwS2 hts q1199 mvX8_isLetter rfl rfl ⟨(Nat.le_of_ble_eq_true rfl), (Nat.le_of_ble_eq_true rfl)⟩) hK hE hA hP hD hS [] rfl (by decide) rfl rfl rfl rfl rfl rfl hl.1 (Nat.le_of_ble_eq_true rfl) dX8_step_105 ⟨Nat.zero_le _, Nat.zero_le _⟩ (fun H locs hP hD hS => ?_)
            refine lv_if_eq (tgt := 118) hx hb dX8_step_108 (by decide) (fun c48 => ?_) (fun c48 => ?_)
            · replace hM := if_t c48 hM
              refine lv_iload_n hx hb dX8_step_118 rfl (lv_at hl 0 rfl) ?_
              obtain ⟨r49, hcr49, hM⟩ := ob_use hM
              refine cl_S (As := [.int r42]) (rest := []) (wM0 ad o_X (r1.2.2.2.1, r1.2) o_N o_T o_U o_O o_E o_Q o_V o_I ++ wMC cI ad o_C ++ wMX cI ad o_X ++ wMN cI ad o_N) (.int r49 :: []) ⟨hx, hb, hml, hown, hts⟩ (c_Model_isDigit l D cI sd ad r42 r49 hcr49) (cwS2 hts q1181 mvX8_isDigit rfl rfl ⟨(Nat.le_of_ble_eq_true rfl), (Nat.le_of_ble_eq_true rfl)⟩) hK hE hA hP hD hS [] rfl (by decide) rfl rfl rfl rfl rfl rfl hl.1 (Nat.le_of_ble_eq_true rfl) dX8_step_119 ⟨Nat.zero_le _, Nat.zero_le _⟩ (fun H locs hP hD hS => ?_)
              refine lv_if_eq (tgt := 133) hx hb dX8_step_122 (by decide) (fun c50 => ?_) (fun c50 => ?_)
              · replace hM := if_t c50 hM
                refine lv_iload_n hx hb dX8_step_133 rfl (lv_at hl 0 rfl) ?_
                refine lv_bipush (v := 37) hx hb dX8_step_134 (by decide) ?_
                refine lv_icmp_ne (tgt := 146) hx hb dX8_step_136 (by decide) (fun c51 => ?_) (fun c51 => ?_)
                · replace hM := if_f c51 hM
                  refine lv_aload_n hx hb dX8_step_146 rfl (lv_at hl 1 rfl) ?_
                  obtain ⟨r52, hcr52, hM⟩ := ob_use hM
                  refine cl_V (As := []) (rest := []) (wM0 ad o_X r52 o_N o_T o_U o_O o_E o_Q o_V o_I ++ wMC cI ad o_C ++ wMX cI ad o_X ++ wMN cI ad o_N) [] ⟨hx, hb, hml, hown, hts⟩ (c_Model_readSign l D cI sd ad o_N o_T o_U o_O o_E o_Q o_V o_I o_C o_X (r1.2.2.2.1, r1.2) r52 hcr52) (cwV2 hts q1221 mvX8_readSign rfl rfl ⟨(Nat.le_of_ble_eq_true rfl), (Nat.le_of_ble_eq_true rfl)⟩) hK hE hA hP hD hS 0 (T := TX8) (N := 48) (ci := 8) rfl rfl [0, 1, 2, 3, 4, 5] rfl (by decide) rfl rfl rfl rfl rfl rfl hl.1 (Nat.le_of_ble_eq_true rfl) dX8_step_147 ⟨Nat.zero_le _, Nat.zero_le _⟩ (fun H locs hP hD hS => ?_)
                  cases hM
                  exact rt_v hx hb hr hlk hP hD hS rfl dX8_step_150
                · replace hM := if_t c51 hM
                  refine lv_aload_n hx hb dX8_step_139 rfl (lv_at hl 1 rfl) ?_
                  obtain ⟨r53, hcr53, hM⟩ := ob_use hM
                  refine cl_V (As := []) (rest := []) (wM0 ad o_X r53 o_N o_T o_U o_O o_E o_Q o_V o_I ++ wMC cI ad o_C ++ wMX cI ad o_X ++ wMN cI ad o_N) [] ⟨hx, hb, hml, hown, hts⟩ (c_Model_readPlace l D cI sd ad o_N o_T o_U o_O o_E o_Q o_V o_I o_C o_X (r1.2.2.2.1, r1.2) r53 hcr53) (cwV2 hts q1215 mvX8_readPlace rfl rfl ⟨(Nat.le_of_ble_eq_true rfl), (Nat.le_of_ble_eq_true rfl)⟩) hK hE hA hP hD hS 0 (T := TX8) (N := 48) (ci := 8) rfl rfl [0, 1, 2, 3, 4, 5] rfl (by decide) rfl rfl rfl rfl rfl rfl hl.1 (Nat.le_of_ble_eq_true rfl) dX8_step_140 ⟨Nat.zero_le _, Nat.zero_le _⟩ (fun H locs hP hD hS => ?_)
                  refine lv_goto (tgt := 150) hx hb dX8_step_143 (by decide) ?_
                  cases hM
                  exact rt_v hx hb hr hlk hP hD hS rfl dX8_step_150
              · replace hM := if_f c50 hM
                refine lv_aload_n hx hb dX8_step_125 rfl (lv_at hl 1 rfl) ?_
                refine lv_iconst (v := 0) hx hb dX8_step_126 (by decide) ?_
                obtain ⟨r54, hcr54, hM⟩ := ob_use hM
                refine cl_V (As := [.int 0]) (rest := []) (wM0 ad o_X r54 o_N o_T o_U o_O o_E o_Q o_V o_I ++ wMC cI ad o_C ++ wMX cI ad o_X ++ wMN cI ad o_N) [] ⟨hx, hb, hml, hown, hts⟩ (c_Model_readNumber l D cI sd ad o_C o_N o_T o_U o_O o_E o_Q o_V o_I o_X (r1.2.2.2.1, r1.2) 0 r54 hcr54) (cwV2 hts q1167 mvX8_readNumber rfl rfl ⟨(Nat.le_of_ble_eq_true rfl), (Nat.le_of_ble_eq_true rfl)⟩) hK hE hA hP hD hS 0 (T := TX8) (N := 48) (ci := 8) rfl rfl [0, 5] rfl (by decide) rfl rfl rfl rfl rfl rfl hl.1 (Nat.le_of_ble_eq_true rfl) dX8_step_127 ⟨Nat.zero_le _, Nat.zero_le _⟩ (fun H locs hP hD hS => ?_)
                refine lv_goto (tgt := 150) hx hb dX8_step_130 (by decide) ?_
                cases hM
                exact rt_v hx hb hr hlk hP hD hS rfl dX8_step_150
            · replace hM := if_f c48 hM
              refine lv_aload_n hx hb dX8_step_111 rfl (lv_at hl 1 rfl) ?_
              obtain ⟨r55, hcr55, hM⟩ := ob_use hM
              refine cl_V (As := []) (rest := []) (wM0 ad o_X r55.1 r55.2 o_T o_U o_O o_E o_Q o_V o_I ++ wMC cI ad o_C ++ wMX cI ad o_X ++ wMN cI ad r55.2) [] ⟨hx, hb, hml, hown, hts⟩ (c_Model_readName l D cI sd ad o_T o_U o_O o_E o_Q o_V o_I o_C o_X (r1.2.2.2.1, r1.2) o_N r55 hcr55) (cwV2 hts q1203 mvX8_readName rfl rfl ⟨(Nat.le_of_ble_eq_true rfl), (Nat.le_of_ble_eq_true rfl)⟩) hK hE hA hP hD hS 0 (T := TX8) (N := 48) (ci := 8) rfl rfl [0, 1, 2, 3, 4, 5, 6, 7] rfl (by decide) rfl rfl rfl rfl rfl rfl hl.1 (Nat.le_of_ble_eq_true rfl) dX8_step_112 ⟨Nat.zero_le _, Nat.zero_le _⟩ (fun H locs hP hD hS => ?_)
              refine lv_goto (tgt := 150) hx hb dX8_step_115 (by decide) ?_
              cases hM
              exact rt_v hx hb hr hlk hP hD hS rfl dX8_step_150
          · replace hM := if_t c46 hM
            refine lv_aload_n hx hb dX8_step_96 rfl (lv_at hl 1 rfl) ?_
            refine lv_iconst (v := 1) hx hb dX8_step_97 (by decide) ?_
            obtain ⟨r56, hcr56, hM⟩ := ob_use hM
            refine cl_V (As := [.int 1]) (rest := []) (wM0 ad o_X r56 o_N o_T o_U o_O o_E o_Q o_V o_I ++ wMC cI ad o_C ++ wMX cI ad o_X ++ wMN cI ad o_N) [] ⟨hx, hb, hml, hown, hts⟩ (c_Model_readNumber l D cI sd ad o_C o_N o_T o_U o_O o_E o_Q o_V o_I o_X (r1.2.2.2.1, r1.2) 1 r56 hcr56) (cwV2 hts q1167 mvX8_readNumber rfl rfl ⟨(Nat.le_of_ble_eq_true rfl), (Nat.le_of_ble_eq_true rfl)⟩) hK hE hA hP hD hS 0 (T := TX8) (N := 48) (ci := 8) rfl rfl [0, 5] rfl (by decide) rfl rfl rfl rfl rfl rfl hl.1 (Nat.le_of_ble_eq_true rfl) dX8_step_98 ⟨Nat.zero_le _, Nat.zero_le _⟩ (fun H locs hP hD hS => ?_)
            refine lv_goto (tgt := 150) hx hb dX8_step_101 (by decide) ?_
            cases hM
            exact rt_v hx hb hr hlk hP hD hS rfl dX8_step_150
        · replace hM := if_f c44 hM
          refine lv_iload_n hx hb dX8_step_75 rfl (lv_at hl 0 rfl) ?_
          refine lv_bipush (v := 116) hx hb dX8_step_76 (by decide) ?_
          refine lv_icmp_ne (tgt := 104) hx hb dX8_step_78 (by decide) (fun c57 => ?_) (fun c57 => ?_)
          · replace hM := if_f c57 hM
            refine lv_iload_n hx hb dX8_step_104 rfl (lv_at hl 0 rfl) ?_
            obtain ⟨r58, hcr58, hM⟩ := ob_use hM
            refine cl_S (As := [.int r42]) (rest := []) (wM0 ad o_X (r1.2.2.2.1, r1.2) o_N o_T o_U o_O o_E o_Q o_V o_I ++ wMC cI ad o_C ++ wMX cI ad o_X ++ wMN cI ad o_N) (.int r58 :: []) ⟨hx, hb, hml, hown, hts⟩ (c_Model_isLetter l D cI sd ad r42 r58 hcr58) (cwS2 hts q1199 mvX8_isLetter rfl rfl ⟨(Nat.le_of_ble_eq_true rfl), (Nat.le_of_ble_eq_true rfl)⟩) hK hE hA hP hD hS [] rfl (by decide) rfl rfl rfl rfl rfl rfl hl.1 (Nat.le_of_ble_eq_true rfl) dX8_step_105 ⟨Nat.zero_le _, Nat.zero_le _⟩ (fun H locs hP hD hS => ?_)
            refine lv_if_eq (tgt := 118) hx hb dX8_step_108 (by decide) (fun c59 => ?_) (fun c59 => ?_)
            · replace hM := if_t c59 hM
              refine lv_iload_n hx hb dX8_step_118 rfl (lv_at hl 0 rfl) ?_
              obtain ⟨r60, hcr60, hM⟩ := ob_use hM
              refine cl_S (As := [.int r42]) (rest := []) (wM0 ad o_X (r1.2.2.2.1, r1.2) o_N o_T o_U o_O o_E o_Q o_V o_I ++ wMC cI ad o_C ++ wMX cI ad o_X ++ wMN cI ad o_N) (.int r60 :: []) ⟨hx, hb, hml, hown, hts⟩ (c_Model_isDigit l D cI sd ad r42 r60 hcr60) (cwS2 hts q1181 mvX8_isDigit rfl rfl ⟨(Nat.le_of_ble_eq_true rfl), (Nat.le_of_ble_eq_true rfl)⟩) hK hE hA hP hD hS [] rfl (by decide) rfl rfl rfl rfl rfl rfl hl.1 (Nat.le_of_ble_eq_true rfl) dX8_step_119 ⟨Nat.zero_le _, Nat.zero_le _⟩ (fun H locs hP hD hS => ?_)
              refine lv_if_eq (tgt := 133) hx hb dX8_step_122 (by decide) (fun c61 => ?_) (fun c61 => ?_)
              · replace hM := if_t c61 hM
                refine lv_iload_n hx hb dX8_step_133 rfl (lv_at hl 0 rfl) ?_
                refine lv_bipush (v := 37) hx hb dX8_step_134 (by decide) ?_
                refine lv_icmp_ne (tgt := 146) hx hb dX8_step_136 (by decide) (fun c62 => ?_) (fun c62 => ?_)
                · replace hM := if_f c62 hM
                  refine lv_aload_n hx hb dX8_step_146 rfl (lv_at hl 1 rfl) ?_
                  obtain ⟨r63, hcr63, hM⟩ := ob_use hM
                  refine cl_V (As := []) (rest := []) (wM0 ad o_X r63 o_N o_T o_U o_O o_E o_Q o_V o_I ++ wMC cI ad o_C ++ wMX cI ad o_X ++ wMN cI ad o_N) [] ⟨hx, hb, hml, hown, hts⟩ (c_Model_readSign l D cI sd ad o_N o_T o_U o_O o_E o_Q o_V o_I o_C o_X (r1.2.2.2.1, r1.2) r63 hcr63) (cwV2 hts q1221 mvX8_readSign rfl rfl ⟨(Nat.le_of_ble_eq_true rfl), (Nat.le_of_ble_eq_true rfl)⟩) hK hE hA hP hD hS 0 (T := TX8) (N := 48) (ci := 8) rfl rfl [0, 1, 2, 3, 4, 5] rfl (by decide) rfl rfl rfl rfl rfl rfl hl.1 (Nat.le_of_ble_eq_true rfl) dX8_step_147 ⟨Nat.zero_le _, Nat.zero_le _⟩ (fun H locs hP hD hS => ?_)
                  cases hM
                  exact rt_v hx hb hr hlk hP hD hS rfl dX8_step_150
                · replace hM := if_t c62 hM
                  refine lv_aload_n hx hb dX8_step_139 rfl (lv_at hl 1 rfl) ?_
                  obtain ⟨r64, hcr64, hM⟩ := ob_use hM
                  refine cl_V (As := []) (rest := []) (wM0 ad o_X r64 o_N o_T o_U o_O o_E o_Q o_V o_I ++ wMC cI ad o_C ++ wMX cI ad o_X ++ wMN cI ad o_N) [] ⟨hx, hb, hml, hown, hts⟩ (c_Model_readPlace l D cI sd ad o_N o_T o_U o_O o_E o_Q o_V o_I o_C o_X (r1.2.2.2.1, r1.2) r64 hcr64) (cwV2 hts q1215 mvX8_readPlace rfl rfl ⟨(Nat.le_of_ble_eq_true rfl), (Nat.le_of_ble_eq_true rfl)⟩) hK hE hA hP hD hS 0 (T := TX8) (N := 48) (ci := 8) rfl rfl [0, 1, 2, 3, 4, 5] rfl (by decide) rfl rfl rfl rfl rfl rfl hl.1 (Nat.le_of_ble_eq_true rfl) dX8_step_140 ⟨Nat.zero_le _, Nat.zero_le _⟩ (fun H locs hP hD hS => ?_)
                  refine lv_goto (tgt := 150) hx hb dX8_step_143 (by decide) ?_
                  cases hM
                  exact rt_v hx hb hr hlk hP hD hS rfl dX8_step_150
              · replace hM := if_f c61 hM
                refine lv_aload_n hx hb dX8_step_125 rfl (lv_at hl 1 rfl) ?_
                refine lv_iconst (v := 0) hx hb dX8_step_126 (by decide) ?_
                obtain ⟨r65, hcr65, hM⟩ := ob_use hM
                refine cl_V (As := [.int 0]) (rest := []) (wM0 ad o_X r65 o_N o_T o_U o_O o_E o_Q o_V o_I ++ wMC cI ad o_C ++ wMX cI ad o_X ++ wMN cI ad o_N) [] ⟨hx, hb, hml, hown, hts⟩ (c_Model_readNumber l D cI sd ad o_C o_N o_T o_U o_O o_E o_Q o_V o_I o_X (r1.2.2.2.1, r1.2) 0 r65 hcr65) (cwV2 hts q1167 mvX8_readNumber rfl rfl ⟨(Nat.le_of_ble_eq_true rfl), (Nat.le_of_ble_eq_true rfl)⟩) hK hE hA hP hD hS 0 (T := TX8) (N := 48) (ci := 8) rfl rfl [0, 5] rfl (by decide) rfl rfl rfl rfl rfl rfl hl.1 (Nat.le_of_ble_eq_true rfl) dX8_step_127 ⟨Nat.zero_le _, Nat.zero_le _⟩ (fun H locs hP hD hS => ?_)
                refine lv_goto (tgt := 150) hx hb dX8_step_130 (by decide) ?_
                cases hM
                exact rt_v hx hb hr hlk hP hD hS rfl dX8_step_150
            · replace hM := if_f c59 hM
              refine lv_aload_n hx hb dX8_step_111 rfl (lv_at hl 1 rfl) ?_
              obtain ⟨r66, hcr66, hM⟩ := ob_use hM
              refine cl_V (As := []) (rest := []) (wM0 ad o_X r66.1 r66.2 o_T o_U o_O o_E o_Q o_V o_I ++ wMC cI ad o_C ++ wMX cI ad o_X ++ wMN cI ad r66.2) [] ⟨hx, hb, hml, hown, hts⟩ (c_Model_readName l D cI sd ad o_T o_U o_O o_E o_Q o_V o_I o_C o_X (r1.2.2.2.1, r1.2) o_N r66 hcr66) (cwV2 hts q1203 mvX8_readName rfl rfl ⟨(Nat.le_of_ble_eq_true rfl), (Nat.le_of_ble_eq_true rfl)⟩) hK hE hA hP hD hS 0 (T := TX8) (N := 48) (ci := 8) rfl rfl [0, 1, 2, 3, 4, 5, 6, 7] rfl (by decide) rfl rfl rfl rfl rfl rfl hl.1 (Nat.le_of_ble_eq_true rfl) dX8_step_112 ⟨Nat.zero_le _, Nat.zero_le _⟩ (fun H locs hP hD hS => ?_)
              refine lv_goto (tgt := 150) hx hb dX8_step_115 (by decide) ?_
              cases hM
              exact rt_v hx hb hr hlk hP hD hS rfl dX8_step_150
          · replace hM := if_t c57 hM
            refine lv_aload_n hx hb dX8_step_81 rfl (lv_at hl 1 rfl) ?_
            refine lv_aload_n hx hb dX8_step_82 rfl (lv_at hl 1 rfl) ?_
            refine va_get (D := D) (ci := 8) (v := .int r1.2.2.2.1) (C := RX8) (T := TX8) (N := 48) hx hb hts layX8 hown hK hP 0 rfl rfl 6 (by decide) (hts _ (inA q984)) (fun _ h9 => h9) rfl dX8_step_83 ?_
            refine lv_iconst (v := 1) hx hb dX8_step_86 (by decide) ?_
            refine lv_iadd hx hb dX8_step_87 ?_
            obtain ⟨r67, hcr67, hM⟩ := ob_use hM
            refine cl_V (As := [.int (r1.2.2.2.1 + 1)]) (rest := []) (wM0 ad o_X (r1.2.2.2.1, r1.2) o_N o_T o_U o_O o_E o_Q o_V o_I ++ wMC cI ad o_C ++ wMX cI ad o_X ++ wMN cI ad o_N) (.int r67 :: []) ⟨hx, hb, hml, hown, hts⟩ (c_Model_at l D cI sd ad o_C (r1.2.2.2.1, r1.2) o_N o_T o_U o_O o_E o_Q o_V o_I o_X (r1.2.2.2.1 + 1) r67 hcr67) (cwV2 hts q1159 mvX8_at rfl rfl ⟨(Nat.le_of_ble_eq_true rfl), (Nat.le_of_ble_eq_true rfl)⟩) hK hE hA hP hD hS 0 (T := TX8) (N := 48) (ci := 8) rfl rfl [0, 5] rfl (by decide) rfl rfl rfl rfl rfl rfl hl.1 (Nat.le_of_ble_eq_true rfl) dX8_step_88 ⟨Nat.zero_le _, Nat.zero_le _⟩ (fun H locs hP hD hS => ?_)
            refine lv_bipush (v := 35) hx hb dX8_step_91 (by decide) ?_
            refine lv_icmp_ne (tgt := 104) hx hb dX8_step_93 (by decide) (fun c68 => ?_) (fun c68 => ?_)
            · replace hM := if_f c68 hM
              refine lv_iload_n hx hb dX8_step_104 rfl (lv_at hl 0 rfl) ?_
              obtain ⟨r69, hcr69, hM⟩ := ob_use hM
              refine cl_S (As := [.int r42]) (rest := []) (wM0 ad o_X (r1.2.2.2.1, r1.2) o_N o_T o_U o_O o_E o_Q o_V o_I ++ wMC cI ad o_C ++ wMX cI ad o_X ++ wMN cI ad o_N) (.int r69 :: []) ⟨hx, hb, hml, hown, hts⟩ (c_Model_isLetter l D cI sd ad r42 r69 hcr69) (cwS2 hts q1199 mvX8_isLetter rfl rfl ⟨(Nat.le_of_ble_eq_true rfl), (Nat.le_of_ble_eq_true rfl)⟩) hK hE hA hP hD hS [] rfl (by decide) rfl rfl rfl rfl rfl rfl hl.1 (Nat.le_of_ble_eq_true rfl) dX8_step_105 ⟨Nat.zero_le _, Nat.zero_le _⟩ (fun H locs hP hD hS => ?_)
              refine lv_if_eq (tgt := 118) hx hb dX8_step_108 (by decide) (fun c70 => ?_) (fun c70 => ?_)
              · replace hM := if_t c70 hM
                refine lv_iload_n hx hb dX8_step_118 rfl (lv_at hl 0 rfl) ?_
                obtain ⟨r71, hcr71, hM⟩ := ob_use hM
                refine cl_S (As := [.int r42]) (rest := []) (wM0 ad o_X (r1.2.2.2.1, r1.2) o_N o_T o_U o_O o_E o_Q o_V o_I ++ wMC cI ad o_C ++ wMX cI ad o_X ++ wMN cI ad o_N) (.int r71 :: []) ⟨hx, hb, hml, hown, hts⟩ (c_Model_isDigit l D cI sd ad r42 r71 hcr71) (cwS2 hts q1181 mvX8_isDigit rfl rfl ⟨(Nat.le_of_ble_eq_true rfl), (Nat.le_of_ble_eq_true rfl)⟩) hK hE hA hP hD hS [] rfl (by decide) rfl rfl rfl rfl rfl rfl hl.1 (Nat.le_of_ble_eq_true rfl) dX8_step_119 ⟨Nat.zero_le _, Nat.zero_le _⟩ (fun H locs hP hD hS => ?_)
                refine lv_if_eq (tgt := 133) hx hb dX8_step_122 (by decide) (fun c72 => ?_) (fun c72 => ?_)
                · replace hM := if_t c72 hM
                  refine lv_iload_n hx hb dX8_step_133 rfl (lv_at hl 0 rfl) ?_
                  refine lv_bipush (v := 37) hx hb dX8_step_134 (by decide) ?_
                  refine lv_icmp_ne (tgt := 146) hx hb dX8_step_136 (by decide) (fun c73 => ?_) (fun c73 => ?_)
                  · replace hM := if_f c73 hM
                    refine lv_aload_n hx hb dX8_step_146 rfl (lv_at hl 1 rfl) ?_
                    obtain ⟨r74, hcr74, hM⟩ := ob_use hM
                    refine cl_V (As := []) (rest := []) (wM0 ad o_X r74 o_N o_T o_U o_O o_E o_Q o_V o_I ++ wMC cI ad o_C ++ wMX cI ad o_X ++ wMN cI ad o_N) [] ⟨hx, hb, hml, hown, hts⟩ (c_Model_readSign l D cI sd ad o_N o_T o_U o_O o_E o_Q o_V o_I o_C o_X (r1.2.2.2.1, r1.2) r74 hcr74) (cwV2 hts q1221 mvX8_readSign rfl rfl ⟨(Nat.le_of_ble_eq_true rfl), (Nat.le_of_ble_eq_true rfl)⟩) hK hE hA hP hD hS 0 (T := TX8) (N := 48) (ci := 8) rfl rfl [0, 1, 2, 3, 4, 5] rfl (by decide) rfl rfl rfl rfl rfl rfl hl.1 (Nat.le_of_ble_eq_true rfl) dX8_step_147 ⟨Nat.zero_le _, Nat.zero_le _⟩ (fun H locs hP hD hS => ?_)
                    cases hM
                    exact rt_v hx hb hr hlk hP hD hS rfl dX8_step_150
                  · replace hM := if_t c73 hM
                    refine lv_aload_n hx hb dX8_step_139 rfl (lv_at hl 1 rfl) ?_
                    obtain ⟨r75, hcr75, hM⟩ := ob_use hM
                    refine cl_V (As := []) (rest := []) (wM0 ad o_X r75 o_N o_T o_U o_O o_E o_Q o_V o_I ++ wMC cI ad o_C ++ wMX cI ad o_X ++ wMN cI ad o_N) [] ⟨hx, hb, hml, hown, hts⟩ (c_Model_readPlace l D cI sd ad o_N o_T o_U o_O o_E o_Q o_V o_I o_C o_X (r1.2.2.2.1, r1.2) r75 hcr75) (cwV2 hts q1215 mvX8_readPlace rfl rfl ⟨(Nat.le_of_ble_eq_true rfl), (Nat.le_of_ble_eq_true rfl)⟩) hK hE hA hP hD hS 0 (T := TX8) (N := 48) (ci := 8) rfl rfl [0, 1, 2, 3, 4, 5] rfl (by decide) rfl rfl rfl rfl rfl rfl hl.1 (Nat.le_of_ble_eq_true rfl) dX8_step_140 ⟨Nat.zero_le _, Nat.zero_le _⟩ (fun H locs hP hD hS => ?_)
                    refine lv_goto (tgt := 150) hx hb dX8_step_143 (by decide) ?_
                    cases hM
                    exact rt_v hx hb hr hlk hP hD hS rfl dX8_step_150
                · replace hM := if_f c72 hM
                  refine lv_aload_n hx hb dX8_step_125 rfl (lv_at hl 1 rfl) ?_
                  refine lv_iconst (v := 0) hx hb dX8_step_126 (by decide) ?_
                  obtain ⟨r76, hcr76, hM⟩ := ob_use hM
                  refine cl_V (As := [.int 0]) (rest := []) (wM0 ad o_X r76 o_N o_T o_U o_O o_E o_Q o_V o_I ++ wMC cI ad o_C ++ wMX cI ad o_X ++ wMN cI ad o_N) [] ⟨hx, hb, hml, hown, hts⟩ (c_Model_readNumber l D cI sd ad o_C o_N o_T o_U o_O o_E o_Q o_V o_I o_X (r1.2.2.2.1, r1.2) 0 r76 hcr76) (cwV2 hts q1167 mvX8_readNumber rfl rfl ⟨(Nat.le_of_ble_eq_true rfl), (Nat.le_of_ble_eq_true rfl)⟩) hK hE hA hP hD hS 0 (T := TX8) (N := 48) (ci := 8) rfl rfl [0, 5] rfl (by decide) rfl rfl rfl rfl rfl rfl hl.1 (Nat.le_of_ble_eq_true rfl) dX8_step_127 ⟨Nat.zero_le _, Nat.zero_le _⟩ (fun H locs hP hD hS => ?_)
                  refine lv_goto (tgt := 150) hx hb dX8_step_130 (by decide) ?_
                  cases hM
                  exact rt_v hx hb hr hlk hP hD hS rfl dX8_step_150
              · replace hM := if_f c70 hM
                refine lv_aload_n hx hb dX8_step_111 rfl (lv_at hl 1 rfl) ?_
                obtain ⟨r77, hcr77, hM⟩ := ob_use hM
                refine cl_V (As := []) (rest := []) (wM0 ad o_X r77.1 r77.2 o_T o_U o_O o_E o_Q o_V o_I ++ wMC cI ad o_C ++ wMX cI ad o_X ++ wMN cI ad r77.2) [] ⟨hx, hb, hml, hown, hts⟩ (c_Model_readName l D cI sd ad o_T o_U o_O o_E o_Q o_V o_I o_C o_X (r1.2.2.2.1, r1.2) o_N r77 hcr77) (cwV2 hts q1203 mvX8_readName rfl rfl ⟨(Nat.le_of_ble_eq_true rfl), (Nat.le_of_ble_eq_true rfl)⟩) hK hE hA hP hD hS 0 (T := TX8) (N := 48) (ci := 8) rfl rfl [0, 1, 2, 3, 4, 5, 6, 7] rfl (by decide) rfl rfl rfl rfl rfl rfl hl.1 (Nat.le_of_ble_eq_true rfl) dX8_step_112 ⟨Nat.zero_le _, Nat.zero_le _⟩ (fun H locs hP hD hS => ?_)
                refine lv_goto (tgt := 150) hx hb dX8_step_115 (by decide) ?_
                cases hM
                exact rt_v hx hb hr hlk hP hD hS rfl dX8_step_150
            · replace hM := if_t c68 hM
              refine lv_aload_n hx hb dX8_step_96 rfl (lv_at hl 1 rfl) ?_
              refine lv_iconst (v := 1) hx hb dX8_step_97 (by decide) ?_
              obtain ⟨r78, hcr78, hM⟩ := ob_use hM
              refine cl_V (As := [.int 1]) (rest := []) (wM0 ad o_X r78 o_N o_T o_U o_O o_E o_Q o_V o_I ++ wMC cI ad o_C ++ wMX cI ad o_X ++ wMN cI ad o_N) [] ⟨hx, hb, hml, hown, hts⟩ (c_Model_readNumber l D cI sd ad o_C o_N o_T o_U o_O o_E o_Q o_V o_I o_X (r1.2.2.2.1, r1.2) 1 r78 hcr78) (cwV2 hts q1167 mvX8_readNumber rfl rfl ⟨(Nat.le_of_ble_eq_true rfl), (Nat.le_of_ble_eq_true rfl)⟩) hK hE hA hP hD hS 0 (T := TX8) (N := 48) (ci := 8) rfl rfl [0, 5] rfl (by decide) rfl rfl rfl rfl rfl rfl hl.1 (Nat.le_of_ble_eq_true rfl) dX8_step_98 ⟨Nat.zero_le _, Nat.zero_le _⟩ (fun H locs hP hD hS => ?_)
              refine lv_goto (tgt := 150) hx hb dX8_step_101 (by decide) ?_
              cases hM
              exact rt_v hx hb hr hlk hP hD hS rfl dX8_step_150
      · replace hM := if_t c43 hM
        refine lv_aload_n hx hb dX8_step_60 rfl (lv_at hl 1 rfl) ?_
        refine lv_bipush (v := 83) hx hb dX8_step_61 (by decide) ?_
        refine va_put (D := D) (ci := 8) (v := .int 83) (ty := .int) (C := RX8) (T := TX8) (N := 48) hx hb hts layX8 tyX8 tyX8_ok nmX8 hown hK hP hD hS 0 rfl rfl 7 (by decide) (hts _ (inA q985)) (fun _ h9 => h9) rfl (by decide +kernel) rfl rfl (Nat.le_of_ble_eq_true rfl) dX8_step_63 (fun H locs hP hD hS => ?_)
        have hP : va_P D vwCl (wM0 ad o_X (r1.2.2.2.1, 83, r1.2.2) o_N o_T o_U o_O o_E o_Q o_V o_I ++ wMC cI ad o_C ++ wMX cI ad o_X ++ wMN cI ad o_N) H := hP
        have hD : va_D A (wM0 ad o_X (r1.2.2.2.1, 83, r1.2.2) o_N o_T o_U o_O o_E o_Q o_V o_I ++ wMC cI ad o_C ++ wMX cI ad o_X ++ wMN cI ad o_N) := hD
        refine lv_goto (tgt := 150) hx hb dX8_step_66 (by decide) ?_
        cases hM
        exact rt_v hx hb hr hlk hP hD hS rfl dX8_step_150
    · replace hM := if_f c41 hM
      cases hM
      exact rt_v hx hb hr hlk hP hD hS rfl dX8_step_45

set_option maxHeartbeats 4000000 in
set_option maxRecDepth 100000 in
theorem c_Model_make (l : Launch) (D : va_G) (cI : ClassId) (sd : Nat → Nat) (ad : Nat → Nat) (o_C : S_MC) (o_X : S_MX) (o_L : S_ML) (o_N : S_MN) (o_U : S_MU) (o_O : S_MO) (o_E : S_ME) (o_Q : S_MQ) (o_V : S_MV) (o_I : S_MI) (o_T : S_MT) (a1 : Int32) (a2 : Int32) (a3 : Int32) (res : Int32 × S_MT) (hM : f_Model_make o_T a1 a2 a3 = some res) : Ctr l D cI sd yX8_make (wsM yX8_make cX8_make 4 (Option.some Jvm.ClassFile.FieldType.int)) { frames := 0, cells := 0, slots := 0, locals := 0 } [.ref (ad 100), .int a1, .int a2, .int a3] (wM0 ad o_X o_L o_N o_T o_U o_O o_E o_Q o_V o_I ++ wMT cI ad o_T) (wM0 ad o_X o_L o_N res.2 o_U o_O o_E o_Q o_V o_I ++ wMT cI ad res.2) (some (.int res.1)) := by
  refine Ctr.of (cc := cX8_make) (maxL := 4) (own := RX8) (by decide +kernel) rfl rfl (Nat.le_of_ble_eq_true rfl) ?_
  intro p e s m below meth c A ls hx hb hr hml hown hts hlk hK hE hA hP hD hS hl
  have hl : lv_has ls 4 [(0, .ref (ad 100)), (1, .int a1), (2, .int a2), (3, .int a3)] := hl
  unfold f_Model_make at hM
  refine lv_aload_n hx hb dX8_make_0 rfl (lv_at hl 0 rfl) ?_
  refine va_get (D := D) (ci := 8) (v := .ref (ad 108)) (C := RX8) (T := TX8) (N := 48) hx hb hts layX8 hown hK hP 0 rfl rfl 17 (by decide) (hts _ (inA q995)) (fun _ h9 => h9) rfl dX8_make_1 ?_
  refine lv_aload_n hx hb dX8_make_4 rfl (lv_at hl 0 rfl) ?_
  refine va_get (D := D) (ci := 8) (v := .int o_T.1) (C := RX8) (T := TX8) (N := 48) hx hb hts layX8 hown hK hP 0 rfl rfl 16 (by decide) (hts _ (inA q994)) (fun _ h9 => h9) rfl dX8_make_5 ?_
  refine lv_iload_n hx hb dX8_make_8 rfl (lv_at hl 1 rfl) ?_
  obtain ⟨b1, hM⟩ := gd_use hM
  refine va_iast hx hb hK hP hD hS 1 0 rfl rfl b1 dX8_make_9 (fun H locs hP hD hS => ?_)
  have hP : va_P D vwCl (wM0 ad o_X o_L o_N (o_T.1, o_T.2.1, upd o_T.2.2.1 o_T.1.toNatClampNeg a1, o_T.2.2.2) o_U o_O o_E o_Q o_V o_I ++ wMT cI ad (o_T.1, o_T.2.1, upd o_T.2.2.1 o_T.1.toNatClampNeg a1, o_T.2.2.2)) H := hP
  have hD : va_D A (wM0 ad o_X o_L o_N (o_T.1, o_T.2.1, upd o_T.2.2.1 o_T.1.toNatClampNeg a1, o_T.2.2.2) o_U o_O o_E o_Q o_V o_I ++ wMT cI ad (o_T.1, o_T.2.1, upd o_T.2.2.1 o_T.1.toNatClampNeg a1, o_T.2.2.2)) := hD
  refine lv_aload_n hx hb dX8_make_10 rfl (lv_at hl 0 rfl) ?_
  refine va_get (D := D) (ci := 8) (v := .ref (ad 109)) (C := RX8) (T := TX8) (N := 48) hx hb hts layX8 hown hK hP 0 rfl rfl 18 (by decide) (hts _ (inA q996)) (fun _ h9 => h9) rfl dX8_make_11 ?_
  refine lv_aload_n hx hb dX8_make_14 rfl (lv_at hl 0 rfl) ?_
  refine va_get (D := D) (ci := 8) (v := .int o_T.1) (C := RX8) (T := TX8) (N := 48) hx hb hts layX8 hown hK hP 0 rfl rfl 16 (by decide) (hts _ (inA q994)) (fun _ h9 => h9) rfl dX8_make_15 ?_
  refine lv_iload_n hx hb dX8_make_18 rfl (lv_at hl 2 rfl) ?_
  obtain ⟨b2, hM⟩ := gd_use hM
  refine va_iast hx hb hK hP hD hS 2 0 rfl rfl b2 dX8_make_19 (fun H locs hP hD hS => ?_)
  have hP : va_P D vwCl (wM0 ad o_X o_L o_N (o_T.1, o_T.2.1, upd o_T.2.2.1 o_T.1.toNatClampNeg a1, upd o_T.2.2.2.1 o_T.1.toNatClampNeg a2, o_T.2.2.2.2) o_U o_O o_E o_Q o_V o_I ++ wMT cI ad (o_T.1, o_T.2.1, upd o_T.2.2.1 o_T.1.toNatClampNeg a1, upd o_T.2.2.2.1 o_T.1.toNatClampNeg a2, o_T.2.2.2.2)) H := hP
  have hD : va_D A (wM0 ad o_X o_L o_N (o_T.1, o_T.2.1, upd o_T.2.2.1 o_T.1.toNatClampNeg a1, upd o_T.2.2.2.1 o_T.1.toNatClampNeg a2, o_T.2.2.2.2) o_U o_O o_E o_Q o_V o_I ++ wMT cI ad (o_T.1, o_T.2.1, upd o_T.2.2.1 o_T.1.toNatClampNeg a1, upd o_T.2.2.2.1 o_T.1.toNatClampNeg a2, o_T.2.2.2.2)) := hD
  refine lv_aload_n hx hb dX8_make_20 rfl (lv_at hl 0 rfl) ?_
  refine va_get (D := D) (ci := 8) (v := .ref (ad 110)) (C := RX8) (T := TX8) (N := 48) hx hb hts layX8 hown hK hP 0 rfl rfl 19 (by decide) (hts _ (inA q997)) (fun _ h9 => h9) rfl dX8_make_21 ?_
  refine lv_aload_n hx hb dX8_make_24 rfl (lv_at hl 0 rfl) ?_
  refine va_get (D := D) (ci := 8) (v := .int o_T.1) (C := RX8) (T := TX8) (N := 48) hx hb hts layX8 hown hK hP 0 rfl rfl 16 (by decide) (hts _ (inA q994)) (fun _ h9 => h9) rfl dX8_make_25 ?_
  refine lv_iload_n hx hb dX8_make_28 rfl (lv_at hl 3 rfl) ?_
  obtain ⟨b3, hM⟩ := gd_use hM
  refine va_iast hx hb hK hP hD hS 3 0 rfl rfl b3 dX8_make_29 (fun H locs hP hD hS => ?_)
  have hP : va_P D vwCl (wM0 ad o_X o_L o_N (o_T.1, o_T.2.1, upd o_T.2.2.1 o_T.1.toNatClampNeg a1, upd o_T.2.2.2.1 o_T.1.toNatClampNeg a2, upd o_T.2.2.2.2.1 o_T.1.toNatClampNeg a3, o_T.2.2.2.2.2) o_U o_O o_E o_Q o_V o_I ++ wMT cI ad (o_T.1, o_T.2.1, upd o_T.2.2.1 o_T.1.toNatClampNeg a1, upd o_T.2.2.2.1 o_T.1.toNatClampNeg a2, upd o_T.2.2.2.2.1 o_T.1.toNatClampNeg a3, o_T.2.2.2.2.2)) H := hP
  have hD : va_D A (wM0 ad o_X o_L o_N (o_T.1, o_T.2.1, upd o_T.2.2.1 o_T.1.toNatClampNeg a1, upd o_T.2.2.2.1 o_T.1.toNatClampNeg a2, upd o_T.2.2.2.2.1 o_T.1.toNatClampNeg a3, o_T.2.2.2.2.2) o_U o_O o_E o_Q o_V o_I ++ wMT cI ad (o_T.1, o_T.2.1, upd o_T.2.2.1 o_T.1.toNatClampNeg a1, upd o_T.2.2.2.1 o_T.1.toNatClampNeg a2, upd o_T.2.2.2.2.1 o_T.1.toNatClampNeg a3, o_T.2.2.2.2.2)) := hD
  refine lv_aload_n hx hb dX8_make_30 rfl (lv_at hl 0 rfl) ?_
  refine va_get (D := D) (ci := 8) (v := .ref (ad 111)) (C := RX8) (T := TX8) (N := 48) hx hb hts layX8 hown hK hP 0 rfl rfl 20 (by decide) (hts _ (inA q998)) (fun _ h9 => h9) rfl dX8_make_31 ?_
  refine lv_aload_n hx hb dX8_make_34 rfl (lv_at hl 0 rfl) ?_
  refine va_get (D := D) (ci := 8) (v := .int o_T.1) (C := RX8) (T := TX8) (N := 48) hx hb hts layX8 hown hK hP 0 rfl rfl 16 (by decide) (hts _ (inA q994)) (fun _ h9 => h9) rfl dX8_make_35 ?_
  refine lv_iconst (v := (-1)) hx hb dX8_make_38 (by decide) ?_
  obtain ⟨b4, hM⟩ := gd_use hM
  refine va_iast hx hb hK hP hD hS 4 0 rfl rfl b4 dX8_make_39 (fun H locs hP hD hS => ?_)
  have hP : va_P D vwCl (wM0 ad o_X o_L o_N (o_T.1, o_T.2.1, upd o_T.2.2.1 o_T.1.toNatClampNeg a1, upd o_T.2.2.2.1 o_T.1.toNatClampNeg a2, upd o_T.2.2.2.2.1 o_T.1.toNatClampNeg a3, upd o_T.2.2.2.2.2.1 o_T.1.toNatClampNeg (-1), o_T.2.2.2.2.2.2) o_U o_O o_E o_Q o_V o_I ++ wMT cI ad (o_T.1, o_T.2.1, upd o_T.2.2.1 o_T.1.toNatClampNeg a1, upd o_T.2.2.2.1 o_T.1.toNatClampNeg a2, upd o_T.2.2.2.2.1 o_T.1.toNatClampNeg a3, upd o_T.2.2.2.2.2.1 o_T.1.toNatClampNeg (-1), o_T.2.2.2.2.2.2)) H := hP
  have hD : va_D A (wM0 ad o_X o_L o_N (o_T.1, o_T.2.1, upd o_T.2.2.1 o_T.1.toNatClampNeg a1, upd o_T.2.2.2.1 o_T.1.toNatClampNeg a2, upd o_T.2.2.2.2.1 o_T.1.toNatClampNeg a3, upd o_T.2.2.2.2.2.1 o_T.1.toNatClampNeg (-1), o_T.2.2.2.2.2.2) o_U o_O o_E o_Q o_V o_I ++ wMT cI ad (o_T.1, o_T.2.1, upd o_T.2.2.1 o_T.1.toNatClampNeg a1, upd o_T.2.2.2.1 o_T.1.toNatClampNeg a2, upd o_T.2.2.2.2.1 o_T.1.toNatClampNeg a3, upd o_T.2.2.2.2.2.1 o_T.1.toNatClampNeg (-1), o_T.2.2.2.2.2.2)) := hD
  refine lv_aload_n hx hb dX8_make_40 rfl (lv_at hl 0 rfl) ?_
  refine va_get (D := D) (ci := 8) (v := .ref (ad 112)) (C := RX8) (T := TX8) (N := 48) hx hb hts layX8 hown hK hP 0 rfl rfl 21 (by decide) (hts _ (inA q999)) (fun _ h9 => h9) rfl dX8_make_41 ?_
  refine lv_aload_n hx hb dX8_make_44 rfl (lv_at hl 0 rfl) ?_
  refine va_get (D := D) (ci := 8) (v := .int o_T.1) (C := RX8) (T := TX8) (N := 48) hx hb hts layX8 hown hK hP 0 rfl rfl 16 (by decide) (hts _ (inA q994)) (fun _ h9 => h9) rfl dX8_make_45 ?_
  refine lv_iconst (v := (-1)) hx hb dX8_make_48 (by decide) ?_
  obtain ⟨b5, hM⟩ := gd_use hM
  refine va_iast hx hb hK hP hD hS 5 0 rfl rfl b5 dX8_make_49 (fun H locs hP hD hS => ?_)
  have hP : va_P D vwCl (wM0 ad o_X o_L o_N (o_T.1, o_T.2.1, upd o_T.2.2.1 o_T.1.toNatClampNeg a1, upd o_T.2.2.2.1 o_T.1.toNatClampNeg a2, upd o_T.2.2.2.2.1 o_T.1.toNatClampNeg a3, upd o_T.2.2.2.2.2.1 o_T.1.toNatClampNeg (-1), upd o_T.2.2.2.2.2.2.1 o_T.1.toNatClampNeg (-1), o_T.2.2.2.2.2.2.2) o_U o_O o_E o_Q o_V o_I ++ wMT cI ad (o_T.1, o_T.2.1, upd o_T.2.2.1 o_T.1.toNatClampNeg a1, upd o_T.2.2.2.1 o_T.1.toNatClampNeg a2, upd o_T.2.2.2.2.1 o_T.1.toNatClampNeg a3, upd o_T.2.2.2.2.2.1 o_T.1.toNatClampNeg (-1), upd o_T.2.2.2.2.2.2.1 o_T.1.toNatClampNeg (-1), o_T.2.2.2.2.2.2.2)) H := hP
  have hD : va_D A (wM0 ad o_X o_L o_N (o_T.1, o_T.2.1, upd o_T.2.2.1 o_T.1.toNatClampNeg a1, upd o_T.2.2.2.1 o_T.1.toNatClampNeg a2, upd o_T.2.2.2.2.1 o_T.1.toNatClampNeg a3, upd o_T.2.2.2.2.2.1 o_T.1.toNatClampNeg (-1), upd o_T.2.2.2.2.2.2.1 o_T.1.toNatClampNeg (-1), o_T.2.2.2.2.2.2.2) o_U o_O o_E o_Q o_V o_I ++ wMT cI ad (o_T.1, o_T.2.1, upd o_T.2.2.1 o_T.1.toNatClampNeg a1, upd o_T.2.2.2.1 o_T.1.toNatClampNeg a2, upd o_T.2.2.2.2.1 o_T.1.toNatClampNeg a3, upd o_T.2.2.2.2.2.1 o_T.1.toNatClampNeg (-1), upd o_T.2.2.2.2.2.2.1 o_T.1.toNatClampNeg (-1), o_T.2.2.2.2.2.2.2)) := hD
  refine lv_aload_n hx hb dX8_make_50 rfl (lv_at hl 0 rfl) ?_
  refine va_get (D := D) (ci := 8) (v := .ref (ad 113)) (C := RX8) (T := TX8) (N := 48) hx hb hts layX8 hown hK hP 0 rfl rfl 22 (by decide) (hts _ (inA q1000)) (fun _ h9 => h9) rfl dX8_make_51 ?_
  refine lv_aload_n hx hb dX8_make_54 rfl (lv_at hl 0 rfl) ?_
  refine va_get (D := D) (ci := 8) (v := .int o_T.1) (C := RX8) (T := TX8) (N := 48) hx hb hts layX8 hown hK hP 0 rfl rfl 16 (by decide) (hts _ (inA q994)) (fun _ h9 => h9) rfl dX8_make_55 ?_
  refine lv_iconst (v := (-1)) hx hb dX8_make_58 (by decide) ?_
  obtain ⟨b6, hM⟩ := gd_use hM
  refine va_iast hx hb hK hP hD hS 6 0 rfl rfl b6 dX8_make_59 (fun H locs hP hD hS => ?_)
  have hP : va_P D vwCl (wM0 ad o_X o_L o_N (o_T.1, o_T.2.1, upd o_T.2.2.1 o_T.1.toNatClampNeg a1, upd o_T.2.2.2.1 o_T.1.toNatClampNeg a2, upd o_T.2.2.2.2.1 o_T.1.toNatClampNeg a3, upd o_T.2.2.2.2.2.1 o_T.1.toNatClampNeg (-1), upd o_T.2.2.2.2.2.2.1 o_T.1.toNatClampNeg (-1), upd o_T.2.2.2.2.2.2.2.1 o_T.1.toNatClampNeg (-1), o_T.2.2.2.2.2.2.2.2) o_U o_O o_E o_Q o_V o_I ++ wMT cI ad (o_T.1, o_T.2.1, upd o_T.2.2.1 o_T.1.toNatClampNeg a1, upd o_T.2.2.2.1 o_T.1.toNatClampNeg a2, upd o_T.2.2.2.2.1 o_T.1.toNatClampNeg a3, upd o_T.2.2.2.2.2.1 o_T.1.toNatClampNeg (-1), upd o_T.2.2.2.2.2.2.1 o_T.1.toNatClampNeg (-1), upd o_T.2.2.2.2.2.2.2.1 o_T.1.toNatClampNeg (-1), o_T.2.2.2.2.2.2.2.2)) H := hP
  have hD : va_D A (wM0 ad o_X o_L o_N (o_T.1, o_T.2.1, upd o_T.2.2.1 o_T.1.toNatClampNeg a1, upd o_T.2.2.2.1 o_T.1.toNatClampNeg a2, upd o_T.2.2.2.2.1 o_T.1.toNatClampNeg a3, upd o_T.2.2.2.2.2.1 o_T.1.toNatClampNeg (-1), upd o_T.2.2.2.2.2.2.1 o_T.1.toNatClampNeg (-1), upd o_T.2.2.2.2.2.2.2.1 o_T.1.toNatClampNeg (-1), o_T.2.2.2.2.2.2.2.2) o_U o_O o_E o_Q o_V o_I ++ wMT cI ad (o_T.1, o_T.2.1, upd o_T.2.2.1 o_T.1.toNatClampNeg a1, upd o_T.2.2.2.1 o_T.1.toNatClampNeg a2, upd o_T.2.2.2.2.1 o_T.1.toNatClampNeg a3, upd o_T.2.2.2.2.2.1 o_T.1.toNatClampNeg (-1), upd o_T.2.2.2.2.2.2.1 o_T.1.toNatClampNeg (-1), upd o_T.2.2.2.2.2.2.2.1 o_T.1.toNatClampNeg (-1), o_T.2.2.2.2.2.2.2.2)) := hD
  refine lv_aload_n hx hb dX8_make_60 rfl (lv_at hl 0 rfl) ?_
  refine va_get (D := D) (ci := 8) (v := .ref (ad 114)) (C := RX8) (T := TX8) (N := 48) hx hb hts layX8 hown hK hP 0 rfl rfl 23 (by decide) (hts _ (inA q1001)) (fun _ h9 => h9) rfl dX8_make_61 ?_
  refine lv_aload_n hx hb dX8_make_64 rfl (lv_at hl 0 rfl) ?_
  refine va_get (D := D) (ci := 8) (v := .int o_T.1) (C := RX8) (T := TX8) (N := 48) hx hb hts layX8 hown hK hP 0 rfl rfl 16 (by decide) (hts _ (inA q994)) (fun _ h9 => h9) rfl dX8_make_65 ?_
  refine lv_iconst (v := (-1)) hx hb dX8_make_68 (by decide) ?_
  obtain ⟨b7, hM⟩ := gd_use hM
  refine va_iast hx hb hK hP hD hS 7 0 rfl rfl b7 dX8_make_69 (fun H locs hP hD hS => ?_)
  have hP : va_P D vwCl (wM0 ad o_X o_L o_N (o_T.1, o_T.2.1, upd o_T.2.2.1 o_T.1.toNatClampNeg a1, upd o_T.2.2.2.1 o_T.1.toNatClampNeg a2, upd o_T.2.2.2.2.1 o_T.1.toNatClampNeg a3, upd o_T.2.2.2.2.2.1 o_T.1.toNatClampNeg (-1), upd o_T.2.2.2.2.2.2.1 o_T.1.toNatClampNeg (-1), upd o_T.2.2.2.2.2.2.2.1 o_T.1.toNatClampNeg (-1), upd o_T.2.2.2.2.2.2.2.2 o_T.1.toNatClampNeg (-1)) o_U o_O o_E o_Q o_V o_I ++ wMT cI ad (o_T.1, o_T.2.1, upd o_T.2.2.1 o_T.1.toNatClampNeg a1, upd o_T.2.2.2.1 o_T.1.toNatClampNeg a2, upd o_T.2.2.2.2.1 o_T.1.toNatClampNeg a3, upd o_T.2.2.2.2.2.1 o_T.1.toNatClampNeg (-1), upd o_T.2.2.2.2.2.2.1 o_T.1.toNatClampNeg (-1), upd o_T.2.2.2.2.2.2.2.1 o_T.1.toNatClampNeg (-1), upd o_T.2.2.2.2.2.2.2.2 o_T.1.toNatClampNeg (-1))) H := hP
  have hD : va_D A (wM0 ad o_X o_L o_N (o_T.1, o_T.2.1, upd o_T.2.2.1 o_T.1.toNatClampNeg a1, upd o_T.2.2.2.1 o_T.1.toNatClampNeg a2, upd o_T.2.2.2.2.1 o_T.1.toNatClampNeg a3, upd o_T.2.2.2.2.2.1 o_T.1.toNatClampNeg (-1), upd o_T.2.2.2.2.2.2.1 o_T.1.toNatClampNeg (-1), upd o_T.2.2.2.2.2.2.2.1 o_T.1.toNatClampNeg (-1), upd o_T.2.2.2.2.2.2.2.2 o_T.1.toNatClampNeg (-1)) o_U o_O o_E o_Q o_V o_I ++ wMT cI ad (o_T.1, o_T.2.1, upd o_T.2.2.1 o_T.1.toNatClampNeg a1, upd o_T.2.2.2.1 o_T.1.toNatClampNeg a2, upd o_T.2.2.2.2.1 o_T.1.toNatClampNeg a3, upd o_T.2.2.2.2.2.1 o_T.1.toNatClampNeg (-1), upd o_T.2.2.2.2.2.2.1 o_T.1.toNatClampNeg (-1), upd o_T.2.2.2.2.2.2.2.1 o_T.1.toNatClampNeg (-1), upd o_T.2.2.2.2.2.2.2.2 o_T.1.toNatClampNeg (-1))) := hD
  refine lv_aload_n hx hb dX8_make_70 rfl (lv_at hl 0 rfl) ?_
  refine lv_dup hx hb dX8_make_71 rfl ?_
  refine va_get (D := D) (ci := 8) (v := .int o_T.1) (C := RX8) (T := TX8) (N := 48) hx hb hts layX8 hown hK hP 0 rfl rfl 16 (by decide) (hts _ (inA q994)) (fun _ h9 => h9) rfl dX8_make_72 ?_
  refine lv_iconst (v := 1) hx hb dX8_make_75 (by decide) ?_
  refine lv_iadd hx hb dX8_make_76 ?_
  refine va_put (D := D) (ci := 8) (v := .int (o_T.1 + 1)) (ty := .int) (C := RX8) (T := TX8) (N := 48) hx hb hts layX8 tyX8 tyX8_ok nmX8 hown hK hP hD hS 0 rfl rfl 16 (by decide) (hts _ (inA q994)) (fun _ h9 => h9) rfl (by decide +kernel) rfl rfl (Nat.le_of_ble_eq_true rfl) dX8_make_77 (fun H locs hP hD hS => ?_)
  have hP : va_P D vwCl (wM0 ad o_X o_L o_N (o_T.1 + 1, o_T.2.1, upd o_T.2.2.1 o_T.1.toNatClampNeg a1, upd o_T.2.2.2.1 o_T.1.toNatClampNeg a2, upd o_T.2.2.2.2.1 o_T.1.toNatClampNeg a3, upd o_T.2.2.2.2.2.1 o_T.1.toNatClampNeg (-1), upd o_T.2.2.2.2.2.2.1 o_T.1.toNatClampNeg (-1), upd o_T.2.2.2.2.2.2.2.1 o_T.1.toNatClampNeg (-1), upd o_T.2.2.2.2.2.2.2.2 o_T.1.toNatClampNeg (-1)) o_U o_O o_E o_Q o_V o_I ++ wMT cI ad (o_T.1 + 1, o_T.2.1, upd o_T.2.2.1 o_T.1.toNatClampNeg a1, upd o_T.2.2.2.1 o_T.1.toNatClampNeg a2, upd o_T.2.2.2.2.1 o_T.1.toNatClampNeg a3, upd o_T.2.2.2.2.2.1 o_T.1.toNatClampNeg (-1), upd o_T.2.2.2.2.2.2.1 o_T.1.toNatClampNeg (-1), upd o_T.2.2.2.2.2.2.2.1 o_T.1.toNatClampNeg (-1), upd o_T.2.2.2.2.2.2.2.2 o_T.1.toNatClampNeg (-1))) H := hP
  have hD : va_D A (wM0 ad o_X o_L o_N (o_T.1 + 1, o_T.2.1, upd o_T.2.2.1 o_T.1.toNatClampNeg a1, upd o_T.2.2.2.1 o_T.1.toNatClampNeg a2, upd o_T.2.2.2.2.1 o_T.1.toNatClampNeg a3, upd o_T.2.2.2.2.2.1 o_T.1.toNatClampNeg (-1), upd o_T.2.2.2.2.2.2.1 o_T.1.toNatClampNeg (-1), upd o_T.2.2.2.2.2.2.2.1 o_T.1.toNatClampNeg (-1), upd o_T.2.2.2.2.2.2.2.2 o_T.1.toNatClampNeg (-1)) o_U o_O o_E o_Q o_V o_I ++ wMT cI ad (o_T.1 + 1, o_T.2.1, upd o_T.2.2.1 o_T.1.toNatClampNeg a1, upd o_T.2.2.2.1 o_T.1.toNatClampNeg a2, upd o_T.2.2.2.2.1 o_T.1.toNatClampNeg a3, upd o_T.2.2.2.2.2.1 o_T.1.toNatClampNeg (-1), upd o_T.2.2.2.2.2.2.1 o_T.1.toNatClampNeg (-1), upd o_T.2.2.2.2.2.2.2.1 o_T.1.toNatClampNeg (-1), upd o_T.2.2.2.2.2.2.2.2 o_T.1.toNatClampNeg (-1))) := hD
  refine lv_aload_n hx hb dX8_make_80 rfl (lv_at hl 0 rfl) ?_
  refine va_get (D := D) (ci := 8) (v := .int (o_T.1 + 1)) (C := RX8) (T := TX8) (N := 48) hx hb hts layX8 hown hK hP 0 rfl rfl 16 (by decide) (hts _ (inA q994)) (fun _ h9 => h9) rfl dX8_make_81 ?_
  refine lv_iconst (v := 1) hx hb dX8_make_84 (by decide) ?_
  refine lv_isub hx hb dX8_make_85 ?_
  cases hM
  exact rt_i hx hb hr hlk hP hD hS rfl dX8_make_86

set_option maxHeartbeats 4000000 in
set_option maxRecDepth 100000 in
theorem c_Model_hang (l : Launch) (D : va_G) (cI : ClassId) (sd : Nat → Nat) (ad : Nat → Nat) (o_C : S_MC) (o_X : S_MX) (o_L : S_ML) (o_N : S_MN) (o_U : S_MU) (o_O : S_MO) (o_E : S_ME) (o_Q : S_MQ) (o_V : S_MV) (o_I : S_MI) (o_T : S_MT) (a1 : Int32) (a2 : Int32) (res : S_MT) (hM : f_Model_hang o_T a1 a2 = some res) : Ctr l D cI sd yX8_hang (wsM yX8_hang cX8_hang 3 (Option.none : Option Jvm.ClassFile.FieldType)) { frames := 0, cells := 0, slots := 0, locals := 0 } [.ref (ad 100), .int a1, .int a2] (wM0 ad o_X o_L o_N o_T o_U o_O o_E o_Q o_V o_I ++ wMT cI ad o_T) (wM0 ad o_X o_L o_N res o_U o_O o_E o_Q o_V o_I ++ wMT cI ad res) none := by
  refine Ctr.of (cc := cX8_hang) (maxL := 3) (own := RX8) (by decide +kernel) rfl rfl (Nat.le_of_ble_eq_true rfl) ?_
  intro p e s m below meth c A ls hx hb hr hml hown hts hlk hK hE hA hP hD hS hl
  have hl : lv_has ls 3 [(0, .ref (ad 100)), (1, .int a1), (2, .int a2)] := hl
  unfold f_Model_hang at hM
  refine lv_aload_n hx hb dX8_hang_0 rfl (lv_at hl 0 rfl) ?_
  refine va_get (D := D) (ci := 8) (v := .ref (ad 111)) (C := RX8) (T := TX8) (N := 48) hx hb hts layX8 hown hK hP 0 rfl rfl 20 (by decide) (hts _ (inA q998)) (fun _ h9 => h9) rfl dX8_hang_1 ?_
  refine lv_iload_n hx hb dX8_hang_4 rfl (lv_at hl 1 rfl) ?_
  refine lv_iload_n hx hb dX8_hang_5 rfl (lv_at hl 2 rfl) ?_
  obtain ⟨b1, hM⟩ := gd_use hM
  refine va_iast hx hb hK hP hD hS 4 0 rfl rfl b1 dX8_hang_6 (fun H locs hP hD hS => ?_)
  have hP : va_P D vwCl (wM0 ad o_X o_L o_N (o_T.1, o_T.2.1, o_T.2.2.1, o_T.2.2.2.1, o_T.2.2.2.2.1, upd o_T.2.2.2.2.2.1 a1.toNatClampNeg a2, o_T.2.2.2.2.2.2) o_U o_O o_E o_Q o_V o_I ++ wMT cI ad (o_T.1, o_T.2.1, o_T.2.2.1, o_T.2.2.2.1, o_T.2.2.2.2.1, upd o_T.2.2.2.2.2.1 a1.toNatClampNeg a2, o_T.2.2.2.2.2.2)) H := hP
  have hD : va_D A (wM0 ad o_X o_L o_N (o_T.1, o_T.2.1, o_T.2.2.1, o_T.2.2.2.1, o_T.2.2.2.2.1, upd o_T.2.2.2.2.2.1 a1.toNatClampNeg a2, o_T.2.2.2.2.2.2) o_U o_O o_E o_Q o_V o_I ++ wMT cI ad (o_T.1, o_T.2.1, o_T.2.2.1, o_T.2.2.2.1, o_T.2.2.2.2.1, upd o_T.2.2.2.2.2.1 a1.toNatClampNeg a2, o_T.2.2.2.2.2.2)) := hD
  refine lv_aload_n hx hb dX8_hang_7 rfl (lv_at hl 0 rfl) ?_
  refine va_get (D := D) (ci := 8) (v := .ref (ad 112)) (C := RX8) (T := TX8) (N := 48) hx hb hts layX8 hown hK hP 0 rfl rfl 21 (by decide) (hts _ (inA q999)) (fun _ h9 => h9) rfl dX8_hang_8 ?_
  refine lv_iload_n hx hb dX8_hang_11 rfl (lv_at hl 2 rfl) ?_
  obtain ⟨b2, hM⟩ := gd_use hM
  refine va_iald hx hb hK hP 5 0 rfl rfl b2 dX8_hang_12 ?_
  refine lv_iconst (v := (-1)) hx hb dX8_hang_13 (by decide) ?_
  refine lv_icmp_ne (tgt := 27) hx hb dX8_hang_14 (by decide) (fun c3 => ?_) (fun c3 => ?_)
  · replace hM := if_f c3 hM
    refine lv_aload_n hx hb dX8_hang_27 rfl (lv_at hl 0 rfl) ?_
    refine va_get (D := D) (ci := 8) (v := .ref (ad 114)) (C := RX8) (T := TX8) (N := 48) hx hb hts layX8 hown hK hP 0 rfl rfl 23 (by decide) (hts _ (inA q1001)) (fun _ h9 => h9) rfl dX8_hang_28 ?_
    refine lv_aload_n hx hb dX8_hang_31 rfl (lv_at hl 0 rfl) ?_
    refine va_get (D := D) (ci := 8) (v := .ref (ad 113)) (C := RX8) (T := TX8) (N := 48) hx hb hts layX8 hown hK hP 0 rfl rfl 22 (by decide) (hts _ (inA q1000)) (fun _ h9 => h9) rfl dX8_hang_32 ?_
    refine lv_iload_n hx hb dX8_hang_35 rfl (lv_at hl 2 rfl) ?_
    obtain ⟨b4, hM⟩ := gd_use hM
    refine va_iald hx hb hK hP 6 0 rfl rfl b4 dX8_hang_36 ?_
    refine lv_iload_n hx hb dX8_hang_37 rfl (lv_at hl 1 rfl) ?_
    obtain ⟨b5, hM⟩ := gd_use hM
    refine va_iast hx hb hK hP hD hS 7 0 rfl rfl b5 dX8_hang_38 (fun H locs hP hD hS => ?_)
    have hP : va_P D vwCl (wM0 ad o_X o_L o_N (o_T.1, o_T.2.1, o_T.2.2.1, o_T.2.2.2.1, o_T.2.2.2.2.1, upd o_T.2.2.2.2.2.1 a1.toNatClampNeg a2, o_T.2.2.2.2.2.2.1, o_T.2.2.2.2.2.2.2.1, upd o_T.2.2.2.2.2.2.2.2 (o_T.2.2.2.2.2.2.2.1 a2.toNatClampNeg).toNatClampNeg a1) o_U o_O o_E o_Q o_V o_I ++ wMT cI ad (o_T.1, o_T.2.1, o_T.2.2.1, o_T.2.2.2.1, o_T.2.2.2.2.1, upd o_T.2.2.2.2.2.1 a1.toNatClampNeg a2, o_T.2.2.2.2.2.2.1, o_T.2.2.2.2.2.2.2.1, upd o_T.2.2.2.2.2.2.2.2 (o_T.2.2.2.2.2.2.2.1 a2.toNatClampNeg).toNatClampNeg a1)) H := hP
    have hD : va_D A (wM0 ad o_X o_L o_N (o_T.1, o_T.2.1, o_T.2.2.1, o_T.2.2.2.1, o_T.2.2.2.2.1, upd o_T.2.2.2.2.2.1 a1.toNatClampNeg a2, o_T.2.2.2.2.2.2.1, o_T.2.2.2.2.2.2.2.1, upd o_T.2.2.2.2.2.2.2.2 (o_T.2.2.2.2.2.2.2.1 a2.toNatClampNeg).toNatClampNeg a1) o_U o_O o_E o_Q o_V o_I ++ wMT cI ad (o_T.1, o_T.2.1, o_T.2.2.1, o_T.2.2.2.1, o_T.2.2.2.2.1, upd o_T.2.2.2.2.2.1 a1.toNatClampNeg a2, o_T.2.2.2.2.2.2.1, o_T.2.2.2.2.2.2.2.1, upd o_T.2.2.2.2.2.2.2.2 (o_T.2.2.2.2.2.2.2.1 a2.toNatClampNeg).toNatClampNeg a1)) := hD
    refine lv_aload_n hx hb dX8_hang_39 rfl (lv_at hl 0 rfl) ?_
    refine va_get (D := D) (ci := 8) (v := .ref (ad 113)) (C := RX8) (T := TX8) (N := 48) hx hb hts layX8 hown hK hP 0 rfl rfl 22 (by decide) (hts _ (inA q1000)) (fun _ h9 => h9) rfl dX8_hang_40 ?_
    refine lv_iload_n hx hb dX8_hang_43 rfl (lv_at hl 2 rfl) ?_
    refine lv_iload_n hx hb dX8_hang_44 rfl (lv_at hl 1 rfl) ?_
    obtain ⟨b6, hM⟩ := gd_use hM
    refine va_iast hx hb hK hP hD hS 6 0 rfl rfl b6 dX8_hang_45 (fun H locs hP hD hS => ?_)
    have hP : va_P D vwCl (wM0 ad o_X o_L o_N (o_T.1, o_T.2.1, o_T.2.2.1, o_T.2.2.2.1, o_T.2.2.2.2.1, upd o_T.2.2.2.2.2.1 a1.toNatClampNeg a2, o_T.2.2.2.2.2.2.1, upd o_T.2.2.2.2.2.2.2.1 a2.toNatClampNeg a1, upd o_T.2.2.2.2.2.2.2.2 (o_T.2.2.2.2.2.2.2.1 a2.toNatClampNeg).toNatClampNeg a1) o_U o_O o_E o_Q o_V o_I ++ wMT cI ad (o_T.1, o_T.2.1, o_T.2.2.1, o_T.2.2.2.1, o_T.2.2.2.2.1, upd o_T.2.2.2.2.2.1 a1.toNatClampNeg a2, o_T.2.2.2.2.2.2.1, upd o_T.2.2.2.2.2.2.2.1 a2.toNatClampNeg a1, upd o_T.2.2.2.2.2.2.2.2 (o_T.2.2.2.2.2.2.2.1 a2.toNatClampNeg).toNatClampNeg a1)) H := hP
    have hD : va_D A (wM0 ad o_X o_L o_N (o_T.1, o_T.2.1, o_T.2.2.1, o_T.2.2.2.1, o_T.2.2.2.2.1, upd o_T.2.2.2.2.2.1 a1.toNatClampNeg a2, o_T.2.2.2.2.2.2.1, upd o_T.2.2.2.2.2.2.2.1 a2.toNatClampNeg a1, upd o_T.2.2.2.2.2.2.2.2 (o_T.2.2.2.2.2.2.2.1 a2.toNatClampNeg).toNatClampNeg a1) o_U o_O o_E o_Q o_V o_I ++ wMT cI ad (o_T.1, o_T.2.1, o_T.2.2.1, o_T.2.2.2.1, o_T.2.2.2.2.1, upd o_T.2.2.2.2.2.1 a1.toNatClampNeg a2, o_T.2.2.2.2.2.2.1, upd o_T.2.2.2.2.2.2.2.1 a2.toNatClampNeg a1, upd o_T.2.2.2.2.2.2.2.2 (o_T.2.2.2.2.2.2.2.1 a2.toNatClampNeg).toNatClampNeg a1)) := hD
    cases hM
    exact rt_v hx hb hr hlk hP hD hS rfl dX8_hang_46
  · replace hM := if_t c3 hM
    refine lv_aload_n hx hb dX8_hang_17 rfl (lv_at hl 0 rfl) ?_
    refine va_get (D := D) (ci := 8) (v := .ref (ad 112)) (C := RX8) (T := TX8) (N := 48) hx hb hts layX8 hown hK hP 0 rfl rfl 21 (by decide) (hts _ (inA q999)) (fun _ h9 => h9) rfl dX8_hang_18 ?_
    refine lv_iload_n hx hb dX8_hang_21 rfl (lv_at hl 2 rfl) ?_
    refine lv_iload_n hx hb dX8_hang_22 rfl (lv_at hl 1 rfl) ?_
    obtain ⟨b7, hM⟩ := gd_use hM
    refine va_iast hx hb hK hP hD hS 5 0 rfl rfl b7 dX8_hang_23 (fun H locs hP hD hS => ?_)
    have hP : va_P D vwCl (wM0 ad o_X o_L o_N (o_T.1, o_T.2.1, o_T.2.2.1, o_T.2.2.2.1, o_T.2.2.2.2.1, upd o_T.2.2.2.2.2.1 a1.toNatClampNeg a2, upd o_T.2.2.2.2.2.2.1 a2.toNatClampNeg a1, o_T.2.2.2.2.2.2.2) o_U o_O o_E o_Q o_V o_I ++ wMT cI ad (o_T.1, o_T.2.1, o_T.2.2.1, o_T.2.2.2.1, o_T.2.2.2.2.1, upd o_T.2.2.2.2.2.1 a1.toNatClampNeg a2, upd o_T.2.2.2.2.2.2.1 a2.toNatClampNeg a1, o_T.2.2.2.2.2.2.2)) H := hP
    have hD : va_D A (wM0 ad o_X o_L o_N (o_T.1, o_T.2.1, o_T.2.2.1, o_T.2.2.2.1, o_T.2.2.2.2.1, upd o_T.2.2.2.2.2.1 a1.toNatClampNeg a2, upd o_T.2.2.2.2.2.2.1 a2.toNatClampNeg a1, o_T.2.2.2.2.2.2.2) o_U o_O o_E o_Q o_V o_I ++ wMT cI ad (o_T.1, o_T.2.1, o_T.2.2.1, o_T.2.2.2.1, o_T.2.2.2.2.1, upd o_T.2.2.2.2.2.1 a1.toNatClampNeg a2, upd o_T.2.2.2.2.2.2.1 a2.toNatClampNeg a1, o_T.2.2.2.2.2.2.2)) := hD
    refine lv_goto (tgt := 39) hx hb dX8_hang_24 (by decide) ?_
    refine lv_aload_n hx hb dX8_hang_39 rfl (lv_at hl 0 rfl) ?_
    refine va_get (D := D) (ci := 8) (v := .ref (ad 113)) (C := RX8) (T := TX8) (N := 48) hx hb hts layX8 hown hK hP 0 rfl rfl 22 (by decide) (hts _ (inA q1000)) (fun _ h9 => h9) rfl dX8_hang_40 ?_
    refine lv_iload_n hx hb dX8_hang_43 rfl (lv_at hl 2 rfl) ?_
    refine lv_iload_n hx hb dX8_hang_44 rfl (lv_at hl 1 rfl) ?_
    obtain ⟨b8, hM⟩ := gd_use hM
    refine va_iast hx hb hK hP hD hS 6 0 rfl rfl b8 dX8_hang_45 (fun H locs hP hD hS => ?_)
    have hP : va_P D vwCl (wM0 ad o_X o_L o_N (o_T.1, o_T.2.1, o_T.2.2.1, o_T.2.2.2.1, o_T.2.2.2.2.1, upd o_T.2.2.2.2.2.1 a1.toNatClampNeg a2, upd o_T.2.2.2.2.2.2.1 a2.toNatClampNeg a1, upd o_T.2.2.2.2.2.2.2.1 a2.toNatClampNeg a1, o_T.2.2.2.2.2.2.2.2) o_U o_O o_E o_Q o_V o_I ++ wMT cI ad (o_T.1, o_T.2.1, o_T.2.2.1, o_T.2.2.2.1, o_T.2.2.2.2.1, upd o_T.2.2.2.2.2.1 a1.toNatClampNeg a2, upd o_T.2.2.2.2.2.2.1 a2.toNatClampNeg a1, upd o_T.2.2.2.2.2.2.2.1 a2.toNatClampNeg a1, o_T.2.2.2.2.2.2.2.2)) H := hP
    have hD : va_D A (wM0 ad o_X o_L o_N (o_T.1, o_T.2.1, o_T.2.2.1, o_T.2.2.2.1, o_T.2.2.2.2.1, upd o_T.2.2.2.2.2.1 a1.toNatClampNeg a2, upd o_T.2.2.2.2.2.2.1 a2.toNatClampNeg a1, upd o_T.2.2.2.2.2.2.2.1 a2.toNatClampNeg a1, o_T.2.2.2.2.2.2.2.2) o_U o_O o_E o_Q o_V o_I ++ wMT cI ad (o_T.1, o_T.2.1, o_T.2.2.1, o_T.2.2.2.1, o_T.2.2.2.2.1, upd o_T.2.2.2.2.2.1 a1.toNatClampNeg a2, upd o_T.2.2.2.2.2.2.1 a2.toNatClampNeg a1, upd o_T.2.2.2.2.2.2.2.1 a2.toNatClampNeg a1, o_T.2.2.2.2.2.2.2.2)) := hD
    cases hM
    exact rt_v hx hb hr hlk hP hD hS rfl dX8_hang_46

set_option maxHeartbeats 4000000 in
set_option maxRecDepth 100000 in
theorem c_Model_leaf (l : Launch) (D : va_G) (cI : ClassId) (sd : Nat → Nat) (ad : Nat → Nat) (o_C : S_MC) (o_X : S_MX) (o_L : S_ML) (o_N : S_MN) (o_U : S_MU) (o_O : S_MO) (o_E : S_ME) (o_Q : S_MQ) (o_V : S_MV) (o_I : S_MI) (o_T : S_MT) (a1 : Int32) (a2 : Int32) (a3 : Int32) (res : S_MT) (hM : f_Model_leaf o_T a1 a2 a3 = some res) : Ctr l D cI sd yX8_leaf (wsM yX8_leaf cX8_leaf 4 (Option.none : Option Jvm.ClassFile.FieldType)) { frames := 1, cells := 0, slots := 0, locals := 23 } [.ref (ad 100), .int a1, .int a2, .int a3] (wM0 ad o_X o_L o_N o_T o_U o_O o_E o_Q o_V o_I ++ wMT cI ad o_T) (wM0 ad o_X o_L o_N res o_U o_O o_E o_Q o_V o_I ++ wMT cI ad res) none := by
  refine Ctr.of (cc := cX8_leaf) (maxL := 4) (own := RX8) (by decide +kernel) rfl rfl (Nat.le_of_ble_eq_true rfl) ?_
  intro p e s m below meth c A ls hx hb hr hml hown hts hlk hK hE hA hP hD hS hl
  have hl : lv_has ls 4 [(0, .ref (ad 100)), (1, .int a1), (2, .int a2), (3, .int a3)] := hl
  unfold f_Model_leaf at hM
  refine lv_aload_n hx hb dX8_leaf_0 rfl (lv_at hl 0 rfl) ?_
  refine lv_aload_n hx hb dX8_leaf_1 rfl (lv_at hl 0 rfl) ?_
  refine lv_iload_n hx hb dX8_leaf_2 rfl (lv_at hl 1 rfl) ?_
  refine lv_iload_n hx hb dX8_leaf_3 rfl (lv_at hl 2 rfl) ?_
  refine lv_iload_n hx hb dX8_leaf_4 rfl (lv_at hl 3 rfl) ?_
  obtain ⟨r1, hcr1, hM⟩ := ob_use hM
  refine cl_V (As := [.int a1, .int a2, .int a3]) (rest := [.ref (ad 100)]) (wM0 ad o_X o_L o_N r1.2 o_U o_O o_E o_Q o_V o_I ++ wMT cI ad r1.2) (.int r1.1 :: [.ref (ad 100)]) ⟨hx, hb, hml, hown, hts⟩ (c_Model_make l D cI sd ad o_C o_X o_L o_N o_U o_O o_E o_Q o_V o_I o_T a1 a2 a3 r1 hcr1) (cwV2 hts q1143 mvX8_make rfl rfl ⟨(Nat.le_of_ble_eq_true rfl), (Nat.le_of_ble_eq_true rfl)⟩) hK hE hA hP hD hS 0 (T := TX8) (N := 48) (ci := 8) rfl rfl [0, 1, 2, 3, 4, 5, 6, 7] rfl (by decide) rfl rfl rfl rfl rfl rfl hl.1 (Nat.le_of_ble_eq_true rfl) dX8_leaf_5 ⟨Nat.zero_le _, Nat.zero_le _⟩ (fun H locs hP hD hS => ?_)
  refine lv_aload_n hx hb dX8_leaf_8 rfl (lv_at hl 0 rfl) ?_
  refine va_get (D := D) (ci := 8) (v := .int r1.2.2.1) (C := RX8) (T := TX8) (N := 48) hx hb hts layX8 hown hK hP 0 rfl rfl 24 (by decide) (hts _ (inA q1002)) (fun _ h9 => h9) rfl dX8_leaf_9 ?_
  obtain ⟨r2, hcr2, hM⟩ := ob_use hM
  refine cl_V (As := [.int r1.1, .int r1.2.2.1]) (rest := []) (wM0 ad o_X o_L o_N r2 o_U o_O o_E o_Q o_V o_I ++ wMT cI ad r2) [] ⟨hx, hb, hml, hown, hts⟩ (c_Model_hang l D cI sd ad o_C o_X o_L o_N o_U o_O o_E o_Q o_V o_I r1.2 r1.1 r1.2.2.1 r2 hcr2) (cwV2 hts q1249 mvX8_hang rfl rfl ⟨(Nat.le_of_ble_eq_true rfl), (Nat.le_of_ble_eq_true rfl)⟩) hK hE hA hP hD hS 0 (T := TX8) (N := 48) (ci := 8) rfl rfl [0, 1, 2, 3, 4, 5, 6, 7] rfl (by decide) rfl rfl rfl rfl rfl rfl hl.1 (Nat.le_of_ble_eq_true rfl) dX8_leaf_12 ⟨Nat.zero_le _, Nat.zero_le _⟩ (fun H locs hP hD hS => ?_)
  cases hM
  exact rt_v hx hb hr hlk hP hD hS rfl dX8_leaf_15

set_option maxHeartbeats 4000000 in
set_option maxRecDepth 100000 in
theorem c_Model_down (l : Launch) (D : va_G) (cI : ClassId) (sd : Nat → Nat) (ad : Nat → Nat) (o_C : S_MC) (o_X : S_MX) (o_L : S_ML) (o_N : S_MN) (o_U : S_MU) (o_O : S_MO) (o_E : S_ME) (o_Q : S_MQ) (o_V : S_MV) (o_I : S_MI) (o_T : S_MT) (a1 : Int32) (a2 : Int32) (a3 : Int32) (res : S_MT) (hM : f_Model_down o_T a1 a2 a3 = some res) : Ctr l D cI sd yX8_down (wsM yX8_down cX8_down 5 (Option.none : Option Jvm.ClassFile.FieldType)) { frames := 1, cells := 0, slots := 0, locals := 23 } [.ref (ad 100), .int a1, .int a2, .int a3] (wM0 ad o_X o_L o_N o_T o_U o_O o_E o_Q o_V o_I ++ wMT cI ad o_T) (wM0 ad o_X o_L o_N res o_U o_O o_E o_Q o_V o_I ++ wMT cI ad res) none := by
  refine Ctr.of (cc := cX8_down) (maxL := 5) (own := RX8) (by decide +kernel) rfl rfl (Nat.le_of_ble_eq_true rfl) ?_
  intro p e s m below meth c A ls hx hb hr hml hown hts hlk hK hE hA hP hD hS hl
  have hl : lv_has ls 5 [(0, .ref (ad 100)), (1, .int a1), (2, .int a2), (3, .int a3)] := hl
  unfold f_Model_down at hM
  refine lv_aload_n hx hb dX8_down_0 rfl (lv_at hl 0 rfl) ?_
  refine lv_iload_n hx hb dX8_down_1 rfl (lv_at hl 1 rfl) ?_
  refine lv_iload_n hx hb dX8_down_2 rfl (lv_at hl 2 rfl) ?_
  refine lv_iload_n hx hb dX8_down_3 rfl (lv_at hl 3 rfl) ?_
  obtain ⟨r1, hcr1, hM⟩ := ob_use hM
  refine cl_V (As := [.int a1, .int a2, .int a3]) (rest := []) (wM0 ad o_X o_L o_N r1.2 o_U o_O o_E o_Q o_V o_I ++ wMT cI ad r1.2) (.int r1.1 :: []) ⟨hx, hb, hml, hown, hts⟩ (c_Model_make l D cI sd ad o_C o_X o_L o_N o_U o_O o_E o_Q o_V o_I o_T a1 a2 a3 r1 hcr1) (cwV2 hts q1143 mvX8_make rfl rfl ⟨(Nat.le_of_ble_eq_true rfl), (Nat.le_of_ble_eq_true rfl)⟩) hK hE hA hP hD hS 0 (T := TX8) (N := 48) (ci := 8) rfl rfl [0, 1, 2, 3, 4, 5, 6, 7] rfl (by decide) rfl rfl rfl rfl rfl rfl hl.1 (Nat.le_of_ble_eq_true rfl) dX8_down_4 ⟨Nat.zero_le _, Nat.zero_le _⟩ (fun H locs hP hD hS => ?_)
  refine lv_istore (lv' := [(4, .int r1.1), (0, .ref (ad 100)), (1, .int a1), (2, .int a2), (3, .int a3)]) hx hb dX8_down_7 hl (by decide) rfl (fun ls hl => ?_)
  refine lv_aload_n hx hb dX8_down_9 rfl (lv_at hl 1 rfl) ?_
  refine lv_iload hx hb dX8_down_10 (lv_at hl 0 rfl) ?_
  refine lv_aload_n hx hb dX8_down_12 rfl (lv_at hl 1 rfl) ?_
  refine va_get (D := D) (ci := 8) (v := .int r1.2.2.1) (C := RX8) (T := TX8) (N := 48) hx hb hts layX8 hown hK hP 0 rfl rfl 24 (by decide) (hts _ (inA q1002)) (fun _ h9 => h9) rfl dX8_down_13 ?_
  obtain ⟨r2, hcr2, hM⟩ := ob_use hM
  refine cl_V (As := [.int r1.1, .int r1.2.2.1]) (rest := []) (wM0 ad o_X o_L o_N r2 o_U o_O o_E o_Q o_V o_I ++ wMT cI ad r2) [] ⟨hx, hb, hml, hown, hts⟩ (c_Model_hang l D cI sd ad o_C o_X o_L o_N o_U o_O o_E o_Q o_V o_I r1.2 r1.1 r1.2.2.1 r2 hcr2) (cwV2 hts q1249 mvX8_hang rfl rfl ⟨(Nat.le_of_ble_eq_true rfl), (Nat.le_of_ble_eq_true rfl)⟩) hK hE hA hP hD hS 0 (T := TX8) (N := 48) (ci := 8) rfl rfl [0, 1, 2, 3, 4, 5, 6, 7] rfl (by decide) rfl rfl rfl rfl rfl rfl hl.1 (Nat.le_of_ble_eq_true rfl) dX8_down_16 ⟨Nat.zero_le _, Nat.zero_le _⟩ (fun H locs hP hD hS => ?_)
  refine lv_aload_n hx hb dX8_down_19 rfl (lv_at hl 1 rfl) ?_
  refine lv_iload hx hb dX8_down_20 (lv_at hl 0 rfl) ?_
  refine va_put (D := D) (ci := 8) (v := .int r1.1) (ty := .int) (C := RX8) (T := TX8) (N := 48) hx hb hts layX8 tyX8 tyX8_ok nmX8 hown hK hP hD hS 0 rfl rfl 24 (by decide) (hts _ (inA q1002)) (fun _ h9 => h9) rfl (by decide +kernel) rfl rfl (Nat.le_of_ble_eq_true rfl) dX8_down_22 (fun H locs hP hD hS => ?_)
  have hP : va_P D vwCl (wM0 ad o_X o_L o_N (r2.1, r1.1, r2.2.2) o_U o_O o_E o_Q o_V o_I ++ wMT cI ad (r2.1, r1.1, r2.2.2)) H := hP
  have hD : va_D A (wM0 ad o_X o_L o_N (r2.1, r1.1, r2.2.2) o_U o_O o_E o_Q o_V o_I ++ wMT cI ad (r2.1, r1.1, r2.2.2)) := hD
  cases hM
  exact rt_v hx hb hr hlk hP hD hS rfl dX8_down_25

set_option maxHeartbeats 4000000 in
set_option maxRecDepth 100000 in
theorem c_Model_push (l : Launch) (D : va_G) (cI : ClassId) (sd : Nat → Nat) (ad : Nat → Nat) (o_C : S_MC) (o_X : S_MX) (o_L : S_ML) (o_N : S_MN) (o_T : S_MT) (o_O : S_MO) (o_E : S_ME) (o_Q : S_MQ) (o_V : S_MV) (o_I : S_MI) (o_U : S_MU) (a1 : Int32) (res : S_MU) (hM : f_Model_push o_U a1 = some res) : Ctr l D cI sd yX8_push (wsM yX8_push cX8_push 2 (Option.none : Option Jvm.ClassFile.FieldType)) { frames := 0, cells := 0, slots := 0, locals := 0 } [.ref (ad 100), .int a1] (wM0 ad o_X o_L o_N o_T o_U o_O o_E o_Q o_V o_I ++ wMU cI ad o_U) (wM0 ad o_X o_L o_N o_T res o_O o_E o_Q o_V o_I ++ wMU cI ad res) none := by
  refine Ctr.of (cc := cX8_push) (maxL := 2) (own := RX8) (by decide +kernel) rfl rfl (Nat.le_of_ble_eq_true rfl) ?_
  intro p e s m below meth c A ls hx hb hr hml hown hts hlk hK hE hA hP hD hS hl
  have hl : lv_has ls 2 [(0, .ref (ad 100)), (1, .int a1)] := hl
  unfold f_Model_push at hM
  refine lv_aload_n hx hb dX8_push_0 rfl (lv_at hl 0 rfl) ?_
  refine va_get (D := D) (ci := 8) (v := .ref (ad 115)) (C := RX8) (T := TX8) (N := 48) hx hb hts layX8 hown hK hP 0 rfl rfl 26 (by decide) (hts _ (inA q1004)) (fun _ h9 => h9) rfl dX8_push_1 ?_
  refine lv_aload_n hx hb dX8_push_4 rfl (lv_at hl 0 rfl) ?_
  refine va_get (D := D) (ci := 8) (v := .int o_U.1) (C := RX8) (T := TX8) (N := 48) hx hb hts layX8 hown hK hP 0 rfl rfl 25 (by decide) (hts _ (inA q1003)) (fun _ h9 => h9) rfl dX8_push_5 ?_
  refine lv_iload_n hx hb dX8_push_8 rfl (lv_at hl 1 rfl) ?_
  obtain ⟨b1, hM⟩ := gd_use hM
  refine va_iast hx hb hK hP hD hS 1 0 rfl rfl b1 dX8_push_9 (fun H locs hP hD hS => ?_)
  have hP : va_P D vwCl (wM0 ad o_X o_L o_N o_T (o_U.1, upd o_U.2 o_U.1.toNatClampNeg a1) o_O o_E o_Q o_V o_I ++ wMU cI ad (o_U.1, upd o_U.2 o_U.1.toNatClampNeg a1)) H := hP
  have hD : va_D A (wM0 ad o_X o_L o_N o_T (o_U.1, upd o_U.2 o_U.1.toNatClampNeg a1) o_O o_E o_Q o_V o_I ++ wMU cI ad (o_U.1, upd o_U.2 o_U.1.toNatClampNeg a1)) := hD
  refine lv_aload_n hx hb dX8_push_10 rfl (lv_at hl 0 rfl) ?_
  refine lv_dup hx hb dX8_push_11 rfl ?_
  refine va_get (D := D) (ci := 8) (v := .int o_U.1) (C := RX8) (T := TX8) (N := 48) hx hb hts layX8 hown hK hP 0 rfl rfl 25 (by decide) (hts _ (inA q1003)) (fun _ h9 => h9) rfl dX8_push_12 ?_
  refine lv_iconst (v := 1) hx hb dX8_push_15 (by decide) ?_
  refine lv_iadd hx hb dX8_push_16 ?_
  refine va_put (D := D) (ci := 8) (v := .int (o_U.1 + 1)) (ty := .int) (C := RX8) (T := TX8) (N := 48) hx hb hts layX8 tyX8 tyX8_ok nmX8 hown hK hP hD hS 0 rfl rfl 25 (by decide) (hts _ (inA q1003)) (fun _ h9 => h9) rfl (by decide +kernel) rfl rfl (Nat.le_of_ble_eq_true rfl) dX8_push_17 (fun H locs hP hD hS => ?_)
  have hP : va_P D vwCl (wM0 ad o_X o_L o_N o_T (o_U.1 + 1, upd o_U.2 o_U.1.toNatClampNeg a1) o_O o_E o_Q o_V o_I ++ wMU cI ad (o_U.1 + 1, upd o_U.2 o_U.1.toNatClampNeg a1)) H := hP
  have hD : va_D A (wM0 ad o_X o_L o_N o_T (o_U.1 + 1, upd o_U.2 o_U.1.toNatClampNeg a1) o_O o_E o_Q o_V o_I ++ wMU cI ad (o_U.1 + 1, upd o_U.2 o_U.1.toNatClampNeg a1)) := hD
  cases hM
  exact rt_v hx hb hr hlk hP hD hS rfl dX8_push_20

set_option maxHeartbeats 4000000 in
set_option maxRecDepth 100000 in
theorem c_Model_push2 (l : Launch) (D : va_G) (cI : ClassId) (sd : Nat → Nat) (ad : Nat → Nat) (o_C : S_MC) (o_X : S_MX) (o_L : S_ML) (o_N : S_MN) (o_T : S_MT) (o_O : S_MO) (o_E : S_ME) (o_Q : S_MQ) (o_V : S_MV) (o_I : S_MI) (o_U : S_MU) (a1 : Int32) (a2 : Int32) (res : S_MU) (hM : f_Model_push2 o_U a1 a2 = some res) : Ctr l D cI sd yX8_push2 (wsM yX8_push2 cX8_push2 3 (Option.none : Option Jvm.ClassFile.FieldType)) { frames := 1, cells := 0, slots := 0, locals := 21 } [.ref (ad 100), .int a1, .int a2] (wM0 ad o_X o_L o_N o_T o_U o_O o_E o_Q o_V o_I ++ wMU cI ad o_U) (wM0 ad o_X o_L o_N o_T res o_O o_E o_Q o_V o_I ++ wMU cI ad res) none := by
  refine Ctr.of (cc := cX8_push2) (maxL := 3) (own := RX8) (by decide +kernel) rfl rfl (Nat.le_of_ble_eq_true rfl) ?_
  intro p e s m below meth c A ls hx hb hr hml hown hts hlk hK hE hA hP hD hS hl
  have hl : lv_has ls 3 [(0, .ref (ad 100)), (1, .int a1), (2, .int a2)] := hl
  unfold f_Model_push2 at hM
  refine lv_aload_n hx hb dX8_push2_0 rfl (lv_at hl 0 rfl) ?_
  refine lv_iload_n hx hb dX8_push2_1 rfl (lv_at hl 1 rfl) ?_
  obtain ⟨r1, hcr1, hM⟩ := ob_use hM
  refine cl_V (As := [.int a1]) (rest := []) (wM0 ad o_X o_L o_N o_T r1 o_O o_E o_Q o_V o_I ++ wMU cI ad r1) [] ⟨hx, hb, hml, hown, hts⟩ (c_Model_push l D cI sd ad o_C o_X o_L o_N o_T o_O o_E o_Q o_V o_I o_U a1 r1 hcr1) (cwV2 hts q1147 mvX8_push rfl rfl ⟨(Nat.le_of_ble_eq_true rfl), (Nat.le_of_ble_eq_true rfl)⟩) hK hE hA hP hD hS 0 (T := TX8) (N := 48) (ci := 8) rfl rfl [0, 1] rfl (by decide) rfl rfl rfl rfl rfl rfl hl.1 (Nat.le_of_ble_eq_true rfl) dX8_push2_2 ⟨Nat.zero_le _, Nat.zero_le _⟩ (fun H locs hP hD hS => ?_)
  refine lv_aload_n hx hb dX8_push2_5 rfl (lv_at hl 0 rfl) ?_
  refine lv_iload_n hx hb dX8_push2_6 rfl (lv_at hl 2 rfl) ?_
  obtain ⟨r2, hcr2, hM⟩ := ob_use hM
  refine cl_V (As := [.int a2]) (rest := []) (wM0 ad o_X o_L o_N o_T r2 o_O o_E o_Q o_V o_I ++ wMU cI ad r2) [] ⟨hx, hb, hml, hown, hts⟩ (c_Model_push l D cI sd ad o_C o_X o_L o_N o_T o_O o_E o_Q o_V o_I r1 a2 r2 hcr2) (cwV2 hts q1147 mvX8_push rfl rfl ⟨(Nat.le_of_ble_eq_true rfl), (Nat.le_of_ble_eq_true rfl)⟩) hK hE hA hP hD hS 0 (T := TX8) (N := 48) (ci := 8) rfl rfl [0, 1] rfl (by decide) rfl rfl rfl rfl rfl rfl hl.1 (Nat.le_of_ble_eq_true rfl) dX8_push2_7 ⟨Nat.zero_le _, Nat.zero_le _⟩ (fun H locs hP hD hS => ?_)
  cases hM
  exact rt_v hx hb hr hlk hP hD hS rfl dX8_push2_10

set_option maxHeartbeats 4000000 in
set_option maxRecDepth 100000 in
theorem c_Model_push4 (l : Launch) (D : va_G) (cI : ClassId) (sd : Nat → Nat) (ad : Nat → Nat) (o_C : S_MC) (o_X : S_MX) (o_L : S_ML) (o_N : S_MN) (o_T : S_MT) (o_O : S_MO) (o_E : S_ME) (o_Q : S_MQ) (o_V : S_MV) (o_I : S_MI) (o_U : S_MU) (a1 : Int32) (a2 : Int32) (a3 : Int32) (a4 : Int32) (res : S_MU) (hM : f_Model_push4 o_U a1 a2 a3 a4 = some res) : Ctr l D cI sd yX8_push4 (wsM yX8_push4 cX8_push4 5 (Option.none : Option Jvm.ClassFile.FieldType)) { frames := 2, cells := 0, slots := 0, locals := 43 } [.ref (ad 100), .int a1, .int a2, .int a3, .int a4] (wM0 ad o_X o_L o_N o_T o_U o_O o_E o_Q o_V o_I ++ wMU cI ad o_U) (wM0 ad o_X o_L o_N o_T res o_O o_E o_Q o_V o_I ++ wMU cI ad res) none := by
  refine Ctr.of (cc := cX8_push4) (maxL := 5) (own := RX8) (by decide +kernel) rfl rfl (Nat.le_of_ble_eq_true rfl) ?_
  intro p e s m below meth c A ls hx hb hr hml hown hts hlk hK hE hA hP hD hS hl
  have hl : lv_has ls 5 [(0, .ref (ad 100)), (1, .int a1), (2, .int a2), (3, .int a3), (4, .int a4)] := hl
  unfold f_Model_push4 at hM
  refine lv_aload_n hx hb dX8_push4_0 rfl (lv_at hl 0 rfl) ?_
  refine lv_iload_n hx hb dX8_push4_1 rfl (lv_at hl 1 rfl) ?_
  refine lv_iload_n hx hb dX8_push4_2 rfl (lv_at hl 2 rfl) ?_
  obtain ⟨r1, hcr1, hM⟩ := ob_use hM
  refine cl_V (As := [.int a1, .int a2]) (rest := []) (wM0 ad o_X o_L o_N o_T r1 o_O o_E o_Q o_V o_I ++ wMU cI ad r1) [] ⟨hx, hb, hml, hown, hts⟩ (c_Model_push2 l D cI sd ad o_C o_X o_L o_N o_T o_O o_E o_Q o_V o_I o_U a1 a2 r1 hcr1) (cwV2 hts q1257 mvX8_push2 rfl rfl ⟨(Nat.le_of_ble_eq_true rfl), (Nat.le_of_ble_eq_true rfl)⟩) hK hE hA hP hD hS 0 (T := TX8) (N := 48) (ci := 8) rfl rfl [0, 1] rfl (by decide) rfl rfl rfl rfl rfl rfl hl.1 (Nat.le_of_ble_eq_true rfl) dX8_push4_3 ⟨Nat.zero_le _, Nat.zero_le _⟩ (fun H locs hP hD hS => ?_)
  refine lv_aload_n hx hb dX8_push4_6 rfl (lv_at hl 0 rfl) ?_
  refine lv_iload_n hx hb dX8_push4_7 rfl (lv_at hl 3 rfl) ?_
  refine lv_iload hx hb dX8_push4_8 (lv_at hl 4 rfl) ?_
  obtain ⟨r2, hcr2, hM⟩ := ob_use hM
  refine cl_V (As := [.int a3, .int a4]) (rest := []) (wM0 ad o_X o_L o_N o_T r2 o_O o_E o_Q o_V o_I ++ wMU cI ad r2) [] ⟨hx, hb, hml, hown, hts⟩ (c_Model_push2 l D cI sd ad o_C o_X o_L o_N o_T o_O o_E o_Q o_V o_I r1 a3 a4 r2 hcr2) (cwV2 hts q1257 mvX8_push2 rfl rfl ⟨(Nat.le_of_ble_eq_true rfl), (Nat.le_of_ble_eq_true rfl)⟩) hK hE hA hP hD hS 0 (T := TX8) (N := 48) (ci := 8) rfl rfl [0, 1] rfl (by decide) rfl rfl rfl rfl rfl rfl hl.1 (Nat.le_of_ble_eq_true rfl) dX8_push4_10 ⟨Nat.zero_le _, Nat.zero_le _⟩ (fun H locs hP hD hS => ?_)
  cases hM
  exact rt_v hx hb hr hlk hP hD hS rfl dX8_push4_13

set_option maxHeartbeats 4000000 in
set_option maxRecDepth 100000 in
theorem c_Model_pushExpression (l : Launch) (D : va_G) (cI : ClassId) (sd : Nat → Nat) (ad : Nat → Nat) (o_C : S_MC) (o_X : S_MX) (o_L : S_ML) (o_N : S_MN) (o_T : S_MT) (o_O : S_MO) (o_E : S_ME) (o_Q : S_MQ) (o_V : S_MV) (o_I : S_MI) (o_U : S_MU) (res : S_MU) (hM : f_Model_pushExpression o_U = some res) : Ctr l D cI sd yX8_pushExpression (wsM yX8_pushExpression cX8_pushExpression 1 (Option.none : Option Jvm.ClassFile.FieldType)) { frames := 2, cells := 0, slots := 0, locals := 43 } [.ref (ad 100)] (wM0 ad o_X o_L o_N o_T o_U o_O o_E o_Q o_V o_I ++ wMU cI ad o_U) (wM0 ad o_X o_L o_N o_T res o_O o_E o_Q o_V o_I ++ wMU cI ad res) none := by
  refine Ctr.of (cc := cX8_pushExpression) (maxL := 1) (own := RX8) (by decide +kernel) rfl rfl (Nat.le_of_ble_eq_true rfl) ?_
  intro p e s m below meth c A ls hx hb hr hml hown hts hlk hK hE hA hP hD hS hl
  have hl : lv_has ls 1 [(0, .ref (ad 100))] := hl
  unfold f_Model_pushExpression at hM
  refine lv_aload_n hx hb dX8_pushExpression_0 rfl (lv_at hl 0 rfl) ?_
  refine lv_sipush (v := 137) hx hb dX8_pushExpression_1 (by decide) ?_
  refine lv_sipush (v := 134) hx hb dX8_pushExpression_4 (by decide) ?_
  obtain ⟨r1, hcr1, hM⟩ := ob_use hM
  refine cl_V (As := [.int 137, .int 134]) (rest := []) (wM0 ad o_X o_L o_N o_T r1 o_O o_E o_Q o_V o_I ++ wMU cI ad r1) [] ⟨hx, hb, hml, hown, hts⟩ (c_Model_push2 l D cI sd ad o_C o_X o_L o_N o_T o_O o_E o_Q o_V o_I o_U 137 134 r1 hcr1) (cwV2 hts q1257 mvX8_push2 rfl rfl ⟨(Nat.le_of_ble_eq_true rfl), (Nat.le_of_ble_eq_true rfl)⟩) hK hE hA hP hD hS 0 (T := TX8) (N := 48) (ci := 8) rfl rfl [0, 1] rfl (by decide) rfl rfl rfl rfl rfl rfl hl.1 (Nat.le_of_ble_eq_true rfl) dX8_pushExpression_7 ⟨Nat.zero_le _, Nat.zero_le _⟩ (fun H locs hP hD hS => ?_)
  cases hM
  exact rt_v hx hb hr hlk hP hD hS rfl dX8_pushExpression_10

set_option maxHeartbeats 4000000 in
set_option maxRecDepth 100000 in
theorem c_Model_wrong (l : Launch) (D : va_G) (cI : ClassId) (sd : Nat → Nat) (ad : Nat → Nat) (o_C : S_MC) (o_X : S_MX) (o_N : S_MN) (o_T : S_MT) (o_U : S_MU) (o_O : S_MO) (o_E : S_ME) (o_Q : S_MQ) (o_V : S_MV) (o_I : S_MI) (o_L : S_ML) (res : S_ML) (hM : f_Model_wrong o_L = some res) : Ctr l D cI sd yX8_wrong (wsM yX8_wrong cX8_wrong 1 (Option.none : Option Jvm.ClassFile.FieldType)) { frames := 1, cells := 0, slots := 0, locals := 22 } [.ref (ad 100)] (wM0 ad o_X o_L o_N o_T o_U o_O o_E o_Q o_V o_I) (wM0 ad o_X res o_N o_T o_U o_O o_E o_Q o_V o_I) none := by
  refine Ctr.of (cc := cX8_wrong) (maxL := 1) (own := RX8) (by decide +kernel) rfl rfl (Nat.le_of_ble_eq_true rfl) ?_
  intro p e s m below meth c A ls hx hb hr hml hown hts hlk hK hE hA hP hD hS hl
  have hl : lv_has ls 1 [(0, .ref (ad 100))] := hl
  unfold f_Model_wrong at hM
  refine lv_aload_n hx hb dX8_wrong_0 rfl (lv_at hl 0 rfl) ?_
  refine lv_bipush (v := 6) hx hb dX8_wrong_1 (by decide) ?_
  refine lv_aload_n hx hb dX8_wrong_3 rfl (lv_at hl 0 rfl) ?_
  refine va_get (D := D) (ci := 8) (v := .int o_L.1) (C := RX8) (T := TX8) (N := 48) hx hb hts layX8 hown hK hP 0 rfl rfl 6 (by decide) (hts _ (inA q984)) (fun _ h9 => h9) rfl dX8_wrong_4 ?_
  obtain ⟨r1, hcr1, hM⟩ := ob_use hM
  refine cl_V (As := [.int 6, .int o_L.1]) (rest := []) (wM0 ad o_X r1 o_N o_T o_U o_O o_E o_Q o_V o_I) [] ⟨hx, hb, hml, hown, hts⟩ (c_Model_fail l D cI sd ad o_C o_X o_N o_T o_U o_O o_E o_Q o_V o_I o_L 6 o_L.1 r1 hcr1) (cwV2 hts q1163 mvX8_fail rfl rfl ⟨(Nat.le_of_ble_eq_true rfl), (Nat.le_of_ble_eq_true rfl)⟩) hK hE hA hP hD hS 0 (T := TX8) (N := 48) (ci := 8) rfl rfl [0] rfl (by decide) rfl rfl rfl rfl rfl rfl hl.1 (Nat.le_of_ble_eq_true rfl) dX8_wrong_7 ⟨Nat.zero_le _, Nat.zero_le _⟩ (fun H locs hP hD hS => ?_)
  cases hM
  exact rt_v hx hb hr hlk hP hD hS rfl dX8_wrong_10

set_option maxHeartbeats 4000000 in
set_option maxRecDepth 100000 in
theorem c_Model_pass (l : Launch) (D : va_G) (cI : ClassId) (sd : Nat → Nat) (ad : Nat → Nat) (o_T : S_MT) (o_U : S_MU) (o_O : S_MO) (o_E : S_ME) (o_Q : S_MQ) (o_V : S_MV) (o_I : S_MI) (o_C : S_MC) (o_X : S_MX) (o_L : S_ML) (o_N : S_MN) (a1 : Int32) (res : S_ML × S_MN) (hM : f_Model_pass o_C o_X o_L o_N a1 = some res) : Ctr l D cI sd yX8_pass (wsM yX8_pass cX8_pass 2 (Option.none : Option Jvm.ClassFile.FieldType)) { frames := 5, cells := 0, slots := 0, locals := 112 } [.ref (ad 100), .int a1] (wM0 ad o_X o_L o_N o_T o_U o_O o_E o_Q o_V o_I ++ wMC cI ad o_C ++ wMX cI ad o_X ++ wMN cI ad o_N) (wM0 ad o_X res.1 res.2 o_T o_U o_O o_E o_Q o_V o_I ++ wMC cI ad o_C ++ wMX cI ad o_X ++ wMN cI ad res.2) none := by
  refine Ctr.of (cc := cX8_pass) (maxL := 2) (own := RX8) (by decide +kernel) rfl rfl (Nat.le_of_ble_eq_true rfl) ?_
  intro p e s m below meth c A ls hx hb hr hml hown hts hlk hK hE hA hP hD hS hl
  have hl : lv_has ls 2 [(0, .ref (ad 100)), (1, .int a1)] := hl
  unfold f_Model_pass at hM
  refine lv_aload_n hx hb dX8_pass_0 rfl (lv_at hl 0 rfl) ?_
  refine va_get (D := D) (ci := 8) (v := .int o_L.2.1) (C := RX8) (T := TX8) (N := 48) hx hb hts layX8 hown hK hP 0 rfl rfl 7 (by decide) (hts _ (inA q985)) (fun _ h9 => h9) rfl dX8_pass_1 ?_
  refine lv_iload_n hx hb dX8_pass_4 rfl (lv_at hl 1 rfl) ?_
  refine lv_icmp_ne (tgt := 15) hx hb dX8_pass_5 (by decide) (fun c1 => ?_) (fun c1 => ?_)
  · replace hM := if_f c1 hM
    refine lv_aload_n hx hb dX8_pass_15 rfl (lv_at hl 0 rfl) ?_
    obtain ⟨r2, hcr2, hM⟩ := ob_use hM
    refine cl_V (As := []) (rest := []) (wM0 ad o_X r2 o_N o_T o_U o_O o_E o_Q o_V o_I ++ wMC cI ad o_C ++ wMX cI ad o_X ++ wMN cI ad o_N) [] ⟨hx, hb, hml, hown, hts⟩ (c_Model_wrong l D cI sd ad o_C o_X o_N o_T o_U o_O o_E o_Q o_V o_I o_L r2 hcr2) (cwV2 hts q1233 mvX8_wrong rfl rfl ⟨(Nat.le_of_ble_eq_true rfl), (Nat.le_of_ble_eq_true rfl)⟩) hK hE hA hP hD hS 0 (T := TX8) (N := 48) (ci := 8) rfl rfl [0] rfl (by decide) rfl rfl rfl rfl rfl rfl hl.1 (Nat.le_of_ble_eq_true rfl) dX8_pass_16 ⟨Nat.zero_le _, Nat.zero_le _⟩ (fun H locs hP hD hS => ?_)
    cases hM
    exact rt_v hx hb hr hlk hP hD hS rfl dX8_pass_19
  · replace hM := if_t c1 hM
    refine lv_aload_n hx hb dX8_pass_8 rfl (lv_at hl 0 rfl) ?_
    obtain ⟨r3, hcr3, hM⟩ := ob_use hM
    refine cl_V (As := []) (rest := []) (wM0 ad o_X r3.1 r3.2 o_T o_U o_O o_E o_Q o_V o_I ++ wMC cI ad o_C ++ wMX cI ad o_X ++ wMN cI ad r3.2) [] ⟨hx, hb, hml, hown, hts⟩ (c_Model_step l D cI sd ad o_T o_U o_O o_E o_Q o_V o_I o_C o_X o_L o_N r3 hcr3) (cwV2 hts q1151 mvX8_step rfl rfl ⟨(Nat.le_of_ble_eq_true rfl), (Nat.le_of_ble_eq_true rfl)⟩) hK hE hA hP hD hS 0 (T := TX8) (N := 48) (ci := 8) rfl rfl [0, 1, 2, 3, 4, 5, 6, 7] rfl (by decide) rfl rfl rfl rfl rfl rfl hl.1 (Nat.le_of_ble_eq_true rfl) dX8_pass_9 ⟨Nat.zero_le _, Nat.zero_le _⟩ (fun H locs hP hD hS => ?_)
    refine lv_goto (tgt := 19) hx hb dX8_pass_12 (by decide) ?_
    cases hM
    exact rt_v hx hb hr hlk hP hD hS rfl dX8_pass_19

set_option maxHeartbeats 4000000 in
set_option maxRecDepth 100000 in
theorem c_Model_opens (l : Launch) (D : va_G) (cI : ClassId) (sd : Nat → Nat) (ad : Nat → Nat) (o_C : S_MC) (o_X : S_MX) (o_N : S_MN) (o_T : S_MT) (o_U : S_MU) (o_E : S_ME) (o_Q : S_MQ) (o_V : S_MV) (o_I : S_MI) (o_L : S_ML) (o_O : S_MO) (res : Int32 × S_ML × S_MO) (hM : f_Model_opens o_L o_O = some res) : Ctr l D cI sd yX8_opens (wsM yX8_opens cX8_opens 1 (Option.some Jvm.ClassFile.FieldType.boolean)) { frames := 1, cells := 0, slots := 0, locals := 22 } [.ref (ad 100)] (wM0 ad o_X o_L o_N o_T o_U o_O o_E o_Q o_V o_I) (wM0 ad o_X res.2.1 o_N o_T o_U res.2.2 o_E o_Q o_V o_I) (some (.int res.1)) := by
  refine Ctr.of (cc := cX8_opens) (maxL := 1) (own := RX8) (by decide +kernel) rfl rfl (Nat.le_of_ble_eq_true rfl) ?_
  intro p e s m below meth c A ls hx hb hr hml hown hts hlk hK hE hA hP hD hS hl
  have hl : lv_has ls 1 [(0, .ref (ad 100))] := hl
  unfold f_Model_opens at hM
  refine lv_aload_n hx hb dX8_opens_0 rfl (lv_at hl 0 rfl) ?_
  refine va_get (D := D) (ci := 8) (v := .int o_O.1) (C := RX8) (T := TX8) (N := 48) hx hb hts layX8 hown hK hP 0 rfl rfl 27 (by decide) (hts _ (inA q1005)) (fun _ h9 => h9) rfl dX8_opens_1 ?_
  refine lv_bipush (v := 60) hx hb dX8_opens_4 (by decide) ?_
  refine lv_icmp_ne (tgt := 21) hx hb dX8_opens_6 (by decide) (fun c1 => ?_) (fun c1 => ?_)
  · replace hM := if_f c1 hM
    refine lv_aload_n hx hb dX8_opens_21 rfl (lv_at hl 0 rfl) ?_
    refine lv_dup hx hb dX8_opens_22 rfl ?_
    refine va_get (D := D) (ci := 8) (v := .int o_O.1) (C := RX8) (T := TX8) (N := 48) hx hb hts layX8 hown hK hP 0 rfl rfl 27 (by decide) (hts _ (inA q1005)) (fun _ h9 => h9) rfl dX8_opens_23 ?_
    refine lv_iconst (v := 1) hx hb dX8_opens_26 (by decide) ?_
    refine lv_iadd hx hb dX8_opens_27 ?_
    refine va_put (D := D) (ci := 8) (v := .int (o_O.1 + 1)) (ty := .int) (C := RX8) (T := TX8) (N := 48) hx hb hts layX8 tyX8 tyX8_ok nmX8 hown hK hP hD hS 0 rfl rfl 27 (by decide) (hts _ (inA q1005)) (fun _ h9 => h9) rfl (by decide +kernel) rfl rfl (Nat.le_of_ble_eq_true rfl) dX8_opens_28 (fun H locs hP hD hS => ?_)
    have hP : va_P D vwCl (wM0 ad o_X o_L o_N o_T o_U (o_O.1 + 1, o_O.2) o_E o_Q o_V o_I) H := hP
    have hD : va_D A (wM0 ad o_X o_L o_N o_T o_U (o_O.1 + 1, o_O.2) o_E o_Q o_V o_I) := hD
    refine lv_iconst (v := 1) hx hb dX8_opens_31 (by decide) ?_
    cases hM
    exact rt_z hx hb hr hlk (by decide) hP hD hS rfl dX8_opens_32
  · replace hM := if_t c1 hM
    refine lv_aload_n hx hb dX8_opens_9 rfl (lv_at hl 0 rfl) ?_
    refine lv_bipush (v := 7) hx hb dX8_opens_10 (by decide) ?_
    refine lv_aload_n hx hb dX8_opens_12 rfl (lv_at hl 0 rfl) ?_
    refine va_get (D := D) (ci := 8) (v := .int o_L.1) (C := RX8) (T := TX8) (N := 48) hx hb hts layX8 hown hK hP 0 rfl rfl 6 (by decide) (hts _ (inA q984)) (fun _ h9 => h9) rfl dX8_opens_13 ?_
    obtain ⟨r2, hcr2, hM⟩ := ob_use hM
    refine cl_V (As := [.int 7, .int o_L.1]) (rest := []) (wM0 ad o_X r2 o_N o_T o_U o_O o_E o_Q o_V o_I) [] ⟨hx, hb, hml, hown, hts⟩ (c_Model_fail l D cI sd ad o_C o_X o_N o_T o_U o_O o_E o_Q o_V o_I o_L 7 o_L.1 r2 hcr2) (cwV2 hts q1163 mvX8_fail rfl rfl ⟨(Nat.le_of_ble_eq_true rfl), (Nat.le_of_ble_eq_true rfl)⟩) hK hE hA hP hD hS 0 (T := TX8) (N := 48) (ci := 8) rfl rfl [0] rfl (by decide) rfl rfl rfl rfl rfl rfl hl.1 (Nat.le_of_ble_eq_true rfl) dX8_opens_16 ⟨Nat.zero_le _, Nat.zero_le _⟩ (fun H locs hP hD hS => ?_)
    refine lv_iconst (v := 0) hx hb dX8_opens_19 (by decide) ?_
    cases hM
    exact rt_z hx hb hr hlk (by decide) hP hD hS rfl dX8_opens_20

set_option maxHeartbeats 4000000 in
set_option maxRecDepth 100000 in
theorem c_Model_keepName (l : Launch) (D : va_G) (cI : ClassId) (sd : Nat → Nat) (ad : Nat → Nat) (o_C : S_MC) (o_X : S_MX) (o_N : S_MN) (o_T : S_MT) (o_U : S_MU) (o_E : S_ME) (o_Q : S_MQ) (o_V : S_MV) (o_I : S_MI) (o_L : S_ML) (o_O : S_MO) (res : S_MO) (hM : f_Model_keepName o_L o_O = some res) : Ctr l D cI sd yX8_keepName (wsM yX8_keepName cX8_keepName 1 (Option.none : Option Jvm.ClassFile.FieldType)) { frames := 0, cells := 0, slots := 0, locals := 0 } [.ref (ad 100)] (wM0 ad o_X o_L o_N o_T o_U o_O o_E o_Q o_V o_I) (wM0 ad o_X o_L o_N o_T o_U res o_E o_Q o_V o_I) none := by
  refine Ctr.of (cc := cX8_keepName) (maxL := 1) (own := RX8) (by decide +kernel) rfl rfl (Nat.le_of_ble_eq_true rfl) ?_
  intro p e s m below meth c A ls hx hb hr hml hown hts hlk hK hE hA hP hD hS hl
  have hl : lv_has ls 1 [(0, .ref (ad 100))] := hl
  unfold f_Model_keepName at hM
  refine lv_aload_n hx hb dX8_keepName_0 rfl (lv_at hl 0 rfl) ?_
  refine lv_aload_n hx hb dX8_keepName_1 rfl (lv_at hl 0 rfl) ?_
  refine va_get (D := D) (ci := 8) (v := .int o_L.1) (C := RX8) (T := TX8) (N := 48) hx hb hts layX8 hown hK hP 0 rfl rfl 6 (by decide) (hts _ (inA q984)) (fun _ h9 => h9) rfl dX8_keepName_2 ?_
  refine va_put (D := D) (ci := 8) (v := .int o_L.1) (ty := .int) (C := RX8) (T := TX8) (N := 48) hx hb hts layX8 tyX8 tyX8_ok nmX8 hown hK hP hD hS 0 rfl rfl 30 (by decide) (hts _ (inA q1008)) (fun _ h9 => h9) rfl (by decide +kernel) rfl rfl (Nat.le_of_ble_eq_true rfl) dX8_keepName_5 (fun H locs hP hD hS => ?_)
  have hP : va_P D vwCl (wM0 ad o_X o_L o_N o_T o_U (o_O.1, o_O.2.1, o_O.2.2.1, o_L.1, o_O.2.2.2.2) o_E o_Q o_V o_I) H := hP
  have hD : va_D A (wM0 ad o_X o_L o_N o_T o_U (o_O.1, o_O.2.1, o_O.2.2.1, o_L.1, o_O.2.2.2.2) o_E o_Q o_V o_I) := hD
  refine lv_aload_n hx hb dX8_keepName_8 rfl (lv_at hl 0 rfl) ?_
  refine lv_aload_n hx hb dX8_keepName_9 rfl (lv_at hl 0 rfl) ?_
  refine va_get (D := D) (ci := 8) (v := .int o_L.2.2.1) (C := RX8) (T := TX8) (N := 48) hx hb hts layX8 hown hK hP 0 rfl rfl 8 (by decide) (hts _ (inA q986)) (fun _ h9 => h9) rfl dX8_keepName_10 ?_
  refine va_put (D := D) (ci := 8) (v := .int o_L.2.2.1) (ty := .int) (C := RX8) (T := TX8) (N := 48) hx hb hts layX8 tyX8 tyX8_ok nmX8 hown hK hP hD hS 0 rfl rfl 31 (by decide) (hts _ (inA q1009)) (fun _ h9 => h9) rfl (by decide +kernel) rfl rfl (Nat.le_of_ble_eq_true rfl) dX8_keepName_13 (fun H locs hP hD hS => ?_)
  have hP : va_P D vwCl (wM0 ad o_X o_L o_N o_T o_U (o_O.1, o_O.2.1, o_O.2.2.1, o_L.1, o_L.2.2.1, o_O.2.2.2.2.2) o_E o_Q o_V o_I) H := hP
  have hD : va_D A (wM0 ad o_X o_L o_N o_T o_U (o_O.1, o_O.2.1, o_O.2.2.1, o_L.1, o_L.2.2.1, o_O.2.2.2.2.2) o_E o_Q o_V o_I) := hD
  cases hM
  exact rt_v hx hb hr hlk hP hD hS rfl dX8_keepName_16

set_option maxHeartbeats 4000000 in
set_option maxRecDepth 100000 in
theorem c_Model_isConstant (l : Launch) (D : va_G) (cI : ClassId) (sd : Nat → Nat) (ad : Nat → Nat) (o_C : S_MC) (o_X : S_MX) (o_N : S_MN) (o_T : S_MT) (o_U : S_MU) (o_O : S_MO) (o_E : S_ME) (o_Q : S_MQ) (o_V : S_MV) (o_I : S_MI) (o_L : S_ML) (res : Int32) (hM : f_Model_isConstant o_L = some res) : Ctr l D cI sd yX8_isConstant (wsM yX8_isConstant cX8_isConstant 1 (Option.some Jvm.ClassFile.FieldType.boolean)) { frames := 0, cells := 0, slots := 0, locals := 0 } [.ref (ad 100)] (wM0 ad o_X o_L o_N o_T o_U o_O o_E o_Q o_V o_I) (wM0 ad o_X o_L o_N o_T o_U o_O o_E o_Q o_V o_I) (some (.int res)) := by
  refine Ctr.of (cc := cX8_isConstant) (maxL := 1) (own := RX8) (by decide +kernel) rfl rfl (Nat.le_of_ble_eq_true rfl) ?_
  intro p e s m below meth c A ls hx hb hr hml hown hts hlk hK hE hA hP hD hS hl
  have hl : lv_has ls 1 [(0, .ref (ad 100))] := hl
  unfold f_Model_isConstant at hM
  refine lv_aload_n hx hb dX8_isConstant_0 rfl (lv_at hl 0 rfl) ?_
  refine va_get (D := D) (ci := 8) (v := .int o_L.2.1) (C := RX8) (T := TX8) (N := 48) hx hb hts layX8 hown hK hP 0 rfl rfl 7 (by decide) (hts _ (inA q985)) (fun _ h9 => h9) rfl dX8_isConstant_1 ?_
  refine lv_bipush (v := 64) hx hb dX8_isConstant_4 (by decide) ?_
  refine lv_icmp_eq (tgt := 36) hx hb dX8_isConstant_6 (by decide) (fun c1 => ?_) (fun c1 => ?_)
  · replace hM := if_t c1 hM
    refine lv_iconst (v := 1) hx hb dX8_isConstant_36 (by decide) ?_
    refine lv_goto (tgt := 41) hx hb dX8_isConstant_37 (by decide) ?_
    cases hM
    exact rt_z hx hb hr hlk (by decide) hP hD hS rfl dX8_isConstant_41
  · replace hM := if_f c1 hM
    refine lv_aload_n hx hb dX8_isConstant_9 rfl (lv_at hl 0 rfl) ?_
    refine va_get (D := D) (ci := 8) (v := .int o_L.2.1) (C := RX8) (T := TX8) (N := 48) hx hb hts layX8 hown hK hP 0 rfl rfl 7 (by decide) (hts _ (inA q985)) (fun _ h9 => h9) rfl dX8_isConstant_10 ?_
    refine lv_bipush (v := 81) hx hb dX8_isConstant_13 (by decide) ?_
    refine lv_icmp_eq (tgt := 36) hx hb dX8_isConstant_15 (by decide) (fun c2 => ?_) (fun c2 => ?_)
    · replace hM := if_t c2 hM
      refine lv_iconst (v := 1) hx hb dX8_isConstant_36 (by decide) ?_
      refine lv_goto (tgt := 41) hx hb dX8_isConstant_37 (by decide) ?_
      cases hM
      exact rt_z hx hb hr hlk (by decide) hP hD hS rfl dX8_isConstant_41
    · replace hM := if_f c2 hM
      refine lv_aload_n hx hb dX8_isConstant_18 rfl (lv_at hl 0 rfl) ?_
      refine va_get (D := D) (ci := 8) (v := .int o_L.2.1) (C := RX8) (T := TX8) (N := 48) hx hb hts layX8 hown hK hP 0 rfl rfl 7 (by decide) (hts _ (inA q985)) (fun _ h9 => h9) rfl dX8_isConstant_19 ?_
      refine lv_bipush (v := 35) hx hb dX8_isConstant_22 (by decide) ?_
      refine lv_icmp_eq (tgt := 36) hx hb dX8_isConstant_24 (by decide) (fun c3 => ?_) (fun c3 => ?_)
      · replace hM := if_t c3 hM
        refine lv_iconst (v := 1) hx hb dX8_isConstant_36 (by decide) ?_
        refine lv_goto (tgt := 41) hx hb dX8_isConstant_37 (by decide) ?_
        cases hM
        exact rt_z hx hb hr hlk (by decide) hP hD hS rfl dX8_isConstant_41
      · replace hM := if_f c3 hM
        refine lv_aload_n hx hb dX8_isConstant_27 rfl (lv_at hl 0 rfl) ?_
        refine va_get (D := D) (ci := 8) (v := .int o_L.2.1) (C := RX8) (T := TX8) (N := 48) hx hb hts layX8 hown hK hP 0 rfl rfl 7 (by decide) (hts _ (inA q985)) (fun _ h9 => h9) rfl dX8_isConstant_28 ?_
        refine lv_bipush (v := 36) hx hb dX8_isConstant_31 (by decide) ?_
        refine lv_icmp_ne (tgt := 40) hx hb dX8_isConstant_33 (by decide) (fun c4 => ?_) (fun c4 => ?_)
        · replace hM := if_f c4 hM
          refine lv_iconst (v := 0) hx hb dX8_isConstant_40 (by decide) ?_
          cases hM
          exact rt_z hx hb hr hlk (by decide) hP hD hS rfl dX8_isConstant_41
        · replace hM := if_t c4 hM
          refine lv_iconst (v := 1) hx hb dX8_isConstant_36 (by decide) ?_
          refine lv_goto (tgt := 41) hx hb dX8_isConstant_37 (by decide) ?_
          cases hM
          exact rt_z hx hb hr hlk (by decide) hP hD hS rfl dX8_isConstant_41

set_option maxHeartbeats 4000000 in
set_option maxRecDepth 100000 in
theorem c_Model_isOperand (l : Launch) (D : va_G) (cI : ClassId) (sd : Nat → Nat) (ad : Nat → Nat) (o_C : S_MC) (o_X : S_MX) (o_N : S_MN) (o_T : S_MT) (o_U : S_MU) (o_O : S_MO) (o_E : S_ME) (o_Q : S_MQ) (o_V : S_MV) (o_I : S_MI) (o_L : S_ML) (res : Int32) (hM : f_Model_isOperand o_L = some res) : Ctr l D cI sd yX8_isOperand (wsM yX8_isOperand cX8_isOperand 1 (Option.some Jvm.ClassFile.FieldType.boolean)) { frames := 1, cells := 0, slots := 0, locals := 20 } [.ref (ad 100)] (wM0 ad o_X o_L o_N o_T o_U o_O o_E o_Q o_V o_I) (wM0 ad o_X o_L o_N o_T o_U o_O o_E o_Q o_V o_I) (some (.int res)) := by
  refine Ctr.of (cc := cX8_isOperand) (maxL := 1) (own := RX8) (by decide +kernel) rfl rfl (Nat.le_of_ble_eq_true rfl) ?_
  intro p e s m below meth c A ls hx hb hr hml hown hts hlk hK hE hA hP hD hS hl
  have hl : lv_has ls 1 [(0, .ref (ad 100))] := hl
  unfold f_Model_isOperand at hM
  refine lv_aload_n hx hb dX8_isOperand_0 rfl (lv_at hl 0 rfl) ?_
  obtain ⟨r1, hcr1, hM⟩ := ob_use hM
  refine cl_V (As := []) (rest := []) (wM0 ad o_X o_L o_N o_T o_U o_O o_E o_Q o_V o_I) (.int r1 :: []) ⟨hx, hb, hml, hown, hts⟩ (c_Model_isConstant l D cI sd ad o_C o_X o_N o_T o_U o_O o_E o_Q o_V o_I o_L r1 hcr1) (cwV2 hts q1353 mvX8_isConstant rfl rfl ⟨(Nat.le_of_ble_eq_true rfl), (Nat.le_of_ble_eq_true rfl)⟩) hK hE hA hP hD hS 0 (T := TX8) (N := 48) (ci := 8) rfl rfl [0] rfl (by decide) rfl rfl rfl rfl rfl rfl hl.1 (Nat.le_of_ble_eq_true rfl) dX8_isOperand_1 ⟨Nat.zero_le _, Nat.zero_le _⟩ (fun H locs hP hD hS => ?_)
  refine lv_if_ne (tgt := 34) hx hb dX8_isOperand_4 (by decide) (fun c2 => ?_) (fun c2 => ?_)
  · replace hM := if_f c2 hM
    refine lv_iconst (v := 1) hx hb dX8_isOperand_34 (by decide) ?_
    refine lv_goto (tgt := 39) hx hb dX8_isOperand_35 (by decide) ?_
    cases hM
    exact rt_z hx hb hr hlk (by decide) hP hD hS rfl dX8_isOperand_39
  · replace hM := if_t c2 hM
    refine lv_aload_n hx hb dX8_isOperand_7 rfl (lv_at hl 0 rfl) ?_
    refine va_get (D := D) (ci := 8) (v := .int o_L.2.1) (C := RX8) (T := TX8) (N := 48) hx hb hts layX8 hown hK hP 0 rfl rfl 7 (by decide) (hts _ (inA q985)) (fun _ h9 => h9) rfl dX8_isOperand_8 ?_
    refine lv_bipush (v := 34) hx hb dX8_isOperand_11 (by decide) ?_
    refine lv_icmp_eq (tgt := 34) hx hb dX8_isOperand_13 (by decide) (fun c3 => ?_) (fun c3 => ?_)
    · replace hM := if_t c3 hM
      refine lv_iconst (v := 1) hx hb dX8_isOperand_34 (by decide) ?_
      refine lv_goto (tgt := 39) hx hb dX8_isOperand_35 (by decide) ?_
      cases hM
      exact rt_z hx hb hr hlk (by decide) hP hD hS rfl dX8_isOperand_39
    · replace hM := if_f c3 hM
      refine lv_aload_n hx hb dX8_isOperand_16 rfl (lv_at hl 0 rfl) ?_
      refine va_get (D := D) (ci := 8) (v := .int o_L.2.1) (C := RX8) (T := TX8) (N := 48) hx hb hts layX8 hown hK hP 0 rfl rfl 7 (by decide) (hts _ (inA q985)) (fun _ h9 => h9) rfl dX8_isOperand_17 ?_
      refine lv_bipush (v := 55) hx hb dX8_isOperand_20 (by decide) ?_
      refine lv_icmp_eq (tgt := 34) hx hb dX8_isOperand_22 (by decide) (fun c4 => ?_) (fun c4 => ?_)
      · replace hM := if_t c4 hM
        refine lv_iconst (v := 1) hx hb dX8_isOperand_34 (by decide) ?_
        refine lv_goto (tgt := 39) hx hb dX8_isOperand_35 (by decide) ?_
        cases hM
        exact rt_z hx hb hr hlk (by decide) hP hD hS rfl dX8_isOperand_39
      · replace hM := if_f c4 hM
        refine lv_aload_n hx hb dX8_isOperand_25 rfl (lv_at hl 0 rfl) ?_
        refine va_get (D := D) (ci := 8) (v := .int o_L.2.1) (C := RX8) (T := TX8) (N := 48) hx hb hts layX8 hown hK hP 0 rfl rfl 7 (by decide) (hts _ (inA q985)) (fun _ h9 => h9) rfl dX8_isOperand_26 ?_
        refine lv_bipush (v := 80) hx hb dX8_isOperand_29 (by decide) ?_
        refine lv_icmp_ne (tgt := 38) hx hb dX8_isOperand_31 (by decide) (fun c5 => ?_) (fun c5 => ?_)
        · replace hM := if_f c5 hM
          refine lv_iconst (v := 0) hx hb dX8_isOperand_38 (by decide) ?_
          cases hM
          exact rt_z hx hb hr hlk (by decide) hP hD hS rfl dX8_isOperand_39
        · replace hM := if_t c5 hM
          refine lv_iconst (v := 1) hx hb dX8_isOperand_34 (by decide) ?_
          refine lv_goto (tgt := 39) hx hb dX8_isOperand_35 (by decide) ?_
          cases hM
          exact rt_z hx hb hr hlk (by decide) hP hD hS rfl dX8_isOperand_39

set_option maxHeartbeats 4000000 in
set_option maxRecDepth 100000 in
theorem c_Model_isCell (l : Launch) (D : va_G) (cI : ClassId) (sd : Nat → Nat) (ad : Nat → Nat) (o_C : S_MC) (o_X : S_MX) (o_N : S_MN) (o_T : S_MT) (o_U : S_MU) (o_O : S_MO) (o_E : S_ME) (o_Q : S_MQ) (o_V : S_MV) (o_I : S_MI) (o_L : S_ML) (res : Int32) (hM : f_Model_isCell o_L = some res) : Ctr l D cI sd yX8_isCell (wsM yX8_isCell cX8_isCell 1 (Option.some Jvm.ClassFile.FieldType.boolean)) { frames := 0, cells := 0, slots := 0, locals := 0 } [.ref (ad 100)] (wM0 ad o_X o_L o_N o_T o_U o_O o_E o_Q o_V o_I) (wM0 ad o_X o_L o_N o_T o_U o_O o_E o_Q o_V o_I) (some (.int res)) := by
  refine Ctr.of (cc := cX8_isCell) (maxL := 1) (own := RX8) (by decide +kernel) rfl rfl (Nat.le_of_ble_eq_true rfl) ?_
  intro p e s m below meth c A ls hx hb hr hml hown hts hlk hK hE hA hP hD hS hl
  have hl : lv_has ls 1 [(0, .ref (ad 100))] := hl
  unfold f_Model_isCell at hM
  refine lv_aload_n hx hb dX8_isCell_0 rfl (lv_at hl 0 rfl) ?_
  refine va_get (D := D) (ci := 8) (v := .int o_L.2.1) (C := RX8) (T := TX8) (N := 48) hx hb hts layX8 hown hK hP 0 rfl rfl 7 (by decide) (hts _ (inA q985)) (fun _ h9 => h9) rfl dX8_isCell_1 ?_
  refine lv_bipush (v := 66) hx hb dX8_isCell_4 (by decide) ?_
  refine lv_icmp_eq (tgt := 63) hx hb dX8_isCell_6 (by decide) (fun c1 => ?_) (fun c1 => ?_)
  · replace hM := if_t c1 hM
    refine lv_iconst (v := 1) hx hb dX8_isCell_63 (by decide) ?_
    refine lv_goto (tgt := 68) hx hb dX8_isCell_64 (by decide) ?_
    cases hM
    exact rt_z hx hb hr hlk (by decide) hP hD hS rfl dX8_isCell_68
  · replace hM := if_f c1 hM
    refine lv_aload_n hx hb dX8_isCell_9 rfl (lv_at hl 0 rfl) ?_
    refine va_get (D := D) (ci := 8) (v := .int o_L.2.1) (C := RX8) (T := TX8) (N := 48) hx hb hts layX8 hown hK hP 0 rfl rfl 7 (by decide) (hts _ (inA q985)) (fun _ h9 => h9) rfl dX8_isCell_10 ?_
    refine lv_bipush (v := 69) hx hb dX8_isCell_13 (by decide) ?_
    refine lv_icmp_eq (tgt := 63) hx hb dX8_isCell_15 (by decide) (fun c2 => ?_) (fun c2 => ?_)
    · replace hM := if_t c2 hM
      refine lv_iconst (v := 1) hx hb dX8_isCell_63 (by decide) ?_
      refine lv_goto (tgt := 68) hx hb dX8_isCell_64 (by decide) ?_
      cases hM
      exact rt_z hx hb hr hlk (by decide) hP hD hS rfl dX8_isCell_68
    · replace hM := if_f c2 hM
      refine lv_aload_n hx hb dX8_isCell_18 rfl (lv_at hl 0 rfl) ?_
      refine va_get (D := D) (ci := 8) (v := .int o_L.2.1) (C := RX8) (T := TX8) (N := 48) hx hb hts layX8 hown hK hP 0 rfl rfl 7 (by decide) (hts _ (inA q985)) (fun _ h9 => h9) rfl dX8_isCell_19 ?_
      refine lv_bipush (v := 68) hx hb dX8_isCell_22 (by decide) ?_
      refine lv_icmp_eq (tgt := 63) hx hb dX8_isCell_24 (by decide) (fun c3 => ?_) (fun c3 => ?_)
      · replace hM := if_t c3 hM
        refine lv_iconst (v := 1) hx hb dX8_isCell_63 (by decide) ?_
        refine lv_goto (tgt := 68) hx hb dX8_isCell_64 (by decide) ?_
        cases hM
        exact rt_z hx hb hr hlk (by decide) hP hD hS rfl dX8_isCell_68
      · replace hM := if_f c3 hM
        refine lv_aload_n hx hb dX8_isCell_27 rfl (lv_at hl 0 rfl) ?_
        refine va_get (D := D) (ci := 8) (v := .int o_L.2.1) (C := RX8) (T := TX8) (N := 48) hx hb hts layX8 hown hK hP 0 rfl rfl 7 (by decide) (hts _ (inA q985)) (fun _ h9 => h9) rfl dX8_isCell_28 ?_
        refine lv_bipush (v := 80) hx hb dX8_isCell_31 (by decide) ?_
        refine lv_icmp_eq (tgt := 63) hx hb dX8_isCell_33 (by decide) (fun c4 => ?_) (fun c4 => ?_)
        · replace hM := if_t c4 hM
          refine lv_iconst (v := 1) hx hb dX8_isCell_63 (by decide) ?_
          refine lv_goto (tgt := 68) hx hb dX8_isCell_64 (by decide) ?_
          cases hM
          exact rt_z hx hb hr hlk (by decide) hP hD hS rfl dX8_isCell_68
        · replace hM := if_f c4 hM
          refine lv_aload_n hx hb dX8_isCell_36 rfl (lv_at hl 0 rfl) ?_
          refine va_get (D := D) (ci := 8) (v := .int o_L.2.1) (C := RX8) (T := TX8) (N := 48) hx hb hts layX8 hown hK hP 0 rfl rfl 7 (by decide) (hts _ (inA q985)) (fun _ h9 => h9) rfl dX8_isCell_37 ?_
          refine lv_bipush (v := 64) hx hb dX8_isCell_40 (by decide) ?_
          refine lv_icmp_eq (tgt := 63) hx hb dX8_isCell_42 (by decide) (fun c5 => ?_) (fun c5 => ?_)
          · replace hM := if_t c5 hM
            refine lv_iconst (v := 1) hx hb dX8_isCell_63 (by decide) ?_
            refine lv_goto (tgt := 68) hx hb dX8_isCell_64 (by decide) ?_
            cases hM
            exact rt_z hx hb hr hlk (by decide) hP hD hS rfl dX8_isCell_68
          · replace hM := if_f c5 hM
            refine lv_aload_n hx hb dX8_isCell_45 rfl (lv_at hl 0 rfl) ?_
            refine va_get (D := D) (ci := 8) (v := .int o_L.2.1) (C := RX8) (T := TX8) (N := 48) hx hb hts layX8 hown hK hP 0 rfl rfl 7 (by decide) (hts _ (inA q985)) (fun _ h9 => h9) rfl dX8_isCell_46 ?_
            refine lv_bipush (v := 65) hx hb dX8_isCell_49 (by decide) ?_
            refine lv_icmp_eq (tgt := 63) hx hb dX8_isCell_51 (by decide) (fun c6 => ?_) (fun c6 => ?_)
            · replace hM := if_t c6 hM
              refine lv_iconst (v := 1) hx hb dX8_isCell_63 (by decide) ?_
              refine lv_goto (tgt := 68) hx hb dX8_isCell_64 (by decide) ?_
              cases hM
              exact rt_z hx hb hr hlk (by decide) hP hD hS rfl dX8_isCell_68
            · replace hM := if_f c6 hM
              refine lv_aload_n hx hb dX8_isCell_54 rfl (lv_at hl 0 rfl) ?_
              refine va_get (D := D) (ci := 8) (v := .int o_L.2.1) (C := RX8) (T := TX8) (N := 48) hx hb hts layX8 hown hK hP 0 rfl rfl 7 (by decide) (hts _ (inA q985)) (fun _ h9 => h9) rfl dX8_isCell_55 ?_
              refine lv_bipush (v := 55) hx hb dX8_isCell_58 (by decide) ?_
              refine lv_icmp_ne (tgt := 67) hx hb dX8_isCell_60 (by decide) (fun c7 => ?_) (fun c7 => ?_)
              · replace hM := if_f c7 hM
                refine lv_iconst (v := 0) hx hb dX8_isCell_67 (by decide) ?_
                cases hM
                exact rt_z hx hb hr hlk (by decide) hP hD hS rfl dX8_isCell_68
              · replace hM := if_t c7 hM
                refine lv_iconst (v := 1) hx hb dX8_isCell_63 (by decide) ?_
                refine lv_goto (tgt := 68) hx hb dX8_isCell_64 (by decide) ?_
                cases hM
                exact rt_z hx hb hr hlk (by decide) hP hD hS rfl dX8_isCell_68

set_option maxHeartbeats 4000000 in
set_option maxRecDepth 100000 in
theorem c_Model_blocks (l : Launch) (D : va_G) (cI : ClassId) (sd : Nat → Nat) (ad : Nat → Nat) (o_O : S_MO) (o_E : S_ME) (o_Q : S_MQ) (o_V : S_MV) (o_I : S_MI) (o_C : S_MC) (o_X : S_MX) (o_L : S_ML) (o_N : S_MN) (o_T : S_MT) (o_U : S_MU) (res : S_ML × S_MN × S_MT × S_MU) (hM : f_Model_blocks o_C o_X o_L o_N o_T o_U = some res) : Ctr l D cI sd yX8_blocks (wsM yX8_blocks cX8_blocks 2 (Option.none : Option Jvm.ClassFile.FieldType)) { frames := 5, cells := 0, slots := 0, locals := 112 } [.ref (ad 100)] (wM0 ad o_X o_L o_N o_T o_U o_O o_E o_Q o_V o_I ++ wMC cI ad o_C ++ wMX cI ad o_X ++ wMN cI ad o_N ++ wMT cI ad o_T ++ wMU cI ad o_U) (wM0 ad o_X res.1 res.2.1 res.2.2.1 res.2.2.2 o_O o_E o_Q o_V o_I ++ wMC cI ad o_C ++ wMX cI ad o_X ++ wMN cI ad res.2.1 ++ wMT cI ad res.2.2.1 ++ wMU cI ad res.2.2.2) none := by
  refine Ctr.of (cc := cX8_blocks) (maxL := 2) (own := RX8) (by decide +kernel) rfl rfl (Nat.le_of_ble_eq_true rfl) ?_
  intro p e s m below meth c A ls hx hb hr hml hown hts hlk hK hE hA hP hD hS hl
  have hl : lv_has ls 2 [(0, .ref (ad 100))] := hl
  unfold f_Model_blocks at hM
  refine lv_aload_n hx hb dX8_blocks_0 rfl (lv_at hl 0 rfl) ?_
  refine va_get (D := D) (ci := 8) (v := .int o_L.2.1) (C := RX8) (T := TX8) (N := 48) hx hb hts layX8 hown hK hP 0 rfl rfl 7 (by decide) (hts _ (inA q985)) (fun _ h9 => h9) rfl dX8_blocks_1 ?_
  refine lv_if_ne (tgt := 11) hx hb dX8_blocks_4 (by decide) (fun c1 => ?_) (fun c1 => ?_)
  · replace hM := if_f c1 hM
    refine lv_aload_n hx hb dX8_blocks_11 rfl (lv_at hl 0 rfl) ?_
    refine va_get (D := D) (ci := 8) (v := .int o_L.2.1) (C := RX8) (T := TX8) (N := 48) hx hb hts layX8 hown hK hP 0 rfl rfl 7 (by decide) (hts _ (inA q985)) (fun _ h9 => h9) rfl dX8_blocks_12 ?_
    refine lv_iconst (v := 2) hx hb dX8_blocks_15 (by decide) ?_
    refine lv_icmp_ne (tgt := 23) hx hb dX8_blocks_16 (by decide) (fun c2 => ?_) (fun c2 => ?_)
    · replace hM := if_f c2 hM
      refine lv_aload_n hx hb dX8_blocks_23 rfl (lv_at hl 0 rfl) ?_
      refine va_get (D := D) (ci := 8) (v := .int o_L.2.1) (C := RX8) (T := TX8) (N := 48) hx hb hts layX8 hown hK hP 0 rfl rfl 7 (by decide) (hts _ (inA q985)) (fun _ h9 => h9) rfl dX8_blocks_24 ?_
      refine lv_iconst (v := 4) hx hb dX8_blocks_27 (by decide) ?_
      refine lv_icmp_ne (tgt := 35) hx hb dX8_blocks_28 (by decide) (fun c3 => ?_) (fun c3 => ?_)
      · replace hM := if_f c3 hM
        refine lv_iconst (v := 0) hx hb dX8_blocks_35 (by decide) ?_
        refine lv_istore_n (lv' := [(1, .int 0), (0, .ref (ad 100))]) hx hb dX8_blocks_36 rfl hl (by decide) rfl (fun ls hl => ?_)
        refine lv_iload_n hx hb dX8_blocks_37 rfl (lv_at hl 0 rfl) ?_
        refine lv_if_ne (tgt := 55) hx hb dX8_blocks_38 (by decide) (fun c4 => False.elim (by revert c4; decide)) (fun c4 => ?_)
        refine lv_aload_n hx hb dX8_blocks_41 rfl (lv_at hl 1 rfl) ?_
        refine va_get (D := D) (ci := 8) (v := .int o_L.2.1) (C := RX8) (T := TX8) (N := 48) hx hb hts layX8 hown hK hP 0 rfl rfl 7 (by decide) (hts _ (inA q985)) (fun _ h9 => h9) rfl dX8_blocks_42 ?_
        refine lv_bipush (v := 83) hx hb dX8_blocks_45 (by decide) ?_
        refine lv_icmp_eq (tgt := 54) hx hb dX8_blocks_47 (by decide) (fun c5 => ?_) (fun c5 => ?_)
        · replace hM := if_t c5 hM
          cases hM
          exact rt_v hx hb hr hlk hP hD hS rfl dX8_blocks_54
        · replace hM := if_f c5 hM
          refine lv_aload_n hx hb dX8_blocks_50 rfl (lv_at hl 1 rfl) ?_
          obtain ⟨r6, hcr6, hM⟩ := ob_use hM
          refine cl_V (As := []) (rest := []) (wM0 ad o_X r6 o_N o_T o_U o_O o_E o_Q o_V o_I ++ wMC cI ad o_C ++ wMX cI ad o_X ++ wMN cI ad o_N ++ wMT cI ad o_T ++ wMU cI ad o_U) [] ⟨hx, hb, hml, hown, hts⟩ (c_Model_wrong l D cI sd ad o_C o_X o_N o_T o_U o_O o_E o_Q o_V o_I o_L r6 hcr6) (cwV2 hts q1233 mvX8_wrong rfl rfl ⟨(Nat.le_of_ble_eq_true rfl), (Nat.le_of_ble_eq_true rfl)⟩) hK hE hA hP hD hS 0 (T := TX8) (N := 48) (ci := 8) rfl rfl [0] rfl (by decide) rfl rfl rfl rfl rfl rfl hl.1 (Nat.le_of_ble_eq_true rfl) dX8_blocks_51 ⟨Nat.zero_le _, Nat.zero_le _⟩ (fun H locs hP hD hS => ?_)
          cases hM
          exact rt_v hx hb hr hlk hP hD hS rfl dX8_blocks_54
      · replace hM := if_t c3 hM
        refine lv_iconst (v := 3) hx hb dX8_blocks_31 (by decide) ?_
        refine lv_goto (tgt := 36) hx hb dX8_blocks_32 (by decide) ?_
        refine lv_istore_n (lv' := [(1, .int 3), (0, .ref (ad 100))]) hx hb dX8_blocks_36 rfl hl (by decide) rfl (fun ls hl => ?_)
        refine lv_iload_n hx hb dX8_blocks_37 rfl (lv_at hl 0 rfl) ?_
        refine lv_if_ne (tgt := 55) hx hb dX8_blocks_38 (by decide) (fun c7 => ?_) (fun c7 => False.elim (by revert c7; decide))
        refine lv_aload_n hx hb dX8_blocks_55 rfl (lv_at hl 1 rfl) ?_
        refine lv_iload_n hx hb dX8_blocks_56 rfl (lv_at hl 0 rfl) ?_
        refine lv_aload_n hx hb dX8_blocks_57 rfl (lv_at hl 1 rfl) ?_
        refine va_get (D := D) (ci := 8) (v := .int o_L.1) (C := RX8) (T := TX8) (N := 48) hx hb hts layX8 hown hK hP 0 rfl rfl 6 (by decide) (hts _ (inA q984)) (fun _ h9 => h9) rfl dX8_blocks_58 ?_
        refine lv_iconst (v := 0) hx hb dX8_blocks_61 (by decide) ?_
        obtain ⟨r8, hcr8, hM⟩ := ob_use hM
        refine cl_V (As := [.int 3, .int o_L.1, .int 0]) (rest := []) (wM0 ad o_X o_L o_N r8 o_U o_O o_E o_Q o_V o_I ++ wMC cI ad o_C ++ wMX cI ad o_X ++ wMN cI ad o_N ++ wMT cI ad r8 ++ wMU cI ad o_U) [] ⟨hx, hb, hml, hown, hts⟩ (c_Model_down l D cI sd ad o_C o_X o_L o_N o_U o_O o_E o_Q o_V o_I o_T 3 o_L.1 0 r8 hcr8) (cwV2 hts q1245 mvX8_down rfl rfl ⟨(Nat.le_of_ble_eq_true rfl), (Nat.le_of_ble_eq_true rfl)⟩) hK hE hA hP hD hS 0 (T := TX8) (N := 48) (ci := 8) rfl rfl [0, 8, 9, 10, 11, 12, 13, 14] rfl (by decide) rfl rfl rfl rfl rfl rfl hl.1 (Nat.le_of_ble_eq_true rfl) dX8_blocks_62 ⟨Nat.zero_le _, Nat.zero_le _⟩ (fun H locs hP hD hS => ?_)
        refine lv_aload_n hx hb dX8_blocks_65 rfl (lv_at hl 1 rfl) ?_
        refine lv_bipush (v := 100) hx hb dX8_blocks_66 (by decide) ?_
        obtain ⟨r9, hcr9, hM⟩ := ob_use hM
        refine cl_V (As := [.int 100]) (rest := []) (wM0 ad o_X o_L o_N r8 r9 o_O o_E o_Q o_V o_I ++ wMC cI ad o_C ++ wMX cI ad o_X ++ wMN cI ad o_N ++ wMT cI ad r8 ++ wMU cI ad r9) [] ⟨hx, hb, hml, hown, hts⟩ (c_Model_push l D cI sd ad o_C o_X o_L o_N r8 o_O o_E o_Q o_V o_I o_U 100 r9 hcr9) (cwV2 hts q1147 mvX8_push rfl rfl ⟨(Nat.le_of_ble_eq_true rfl), (Nat.le_of_ble_eq_true rfl)⟩) hK hE hA hP hD hS 0 (T := TX8) (N := 48) (ci := 8) rfl rfl [0, 15] rfl (by decide) rfl rfl rfl rfl rfl rfl hl.1 (Nat.le_of_ble_eq_true rfl) dX8_blocks_68 ⟨Nat.zero_le _, Nat.zero_le _⟩ (fun H locs hP hD hS => ?_)
        refine lv_aload_n hx hb dX8_blocks_71 rfl (lv_at hl 1 rfl) ?_
        refine lv_bipush (v := 101) hx hb dX8_blocks_72 (by decide) ?_
        refine lv_iload_n hx hb dX8_blocks_74 rfl (lv_at hl 0 rfl) ?_
        refine lv_iconst (v := 1) hx hb dX8_blocks_75 (by decide) ?_
        refine lv_icmp_ne (tgt := 83) hx hb dX8_blocks_76 (by decide) (fun c10 => ?_) (fun c10 => False.elim (by revert c10; decide))
        refine lv_iload_n hx hb dX8_blocks_83 rfl (lv_at hl 0 rfl) ?_
        refine lv_iconst (v := 2) hx hb dX8_blocks_84 (by decide) ?_
        refine lv_icmp_ne (tgt := 92) hx hb dX8_blocks_85 (by decide) (fun c11 => ?_) (fun c11 => False.elim (by revert c11; decide))
        refine lv_iconst (v := 5) hx hb dX8_blocks_92 (by decide) ?_
        refine lv_bipush (v := 102) hx hb dX8_blocks_93 (by decide) ?_
        refine lv_bipush (v := 103) hx hb dX8_blocks_95 (by decide) ?_
        obtain ⟨r12, hcr12, hM⟩ := ob_use hM
        refine cl_V (As := [.int 101, .int 5, .int 102, .int 103]) (rest := []) (wM0 ad o_X o_L o_N r8 r12 o_O o_E o_Q o_V o_I ++ wMC cI ad o_C ++ wMX cI ad o_X ++ wMN cI ad o_N ++ wMT cI ad r8 ++ wMU cI ad r12) [] ⟨hx, hb, hml, hown, hts⟩ (c_Model_push4 l D cI sd ad o_C o_X o_L o_N r8 o_O o_E o_Q o_V o_I r9 101 5 102 103 r12 hcr12) (cwV2 hts q1253 mvX8_push4 rfl rfl ⟨(Nat.le_of_ble_eq_true rfl), (Nat.le_of_ble_eq_true rfl)⟩) hK hE hA hP hD hS 0 (T := TX8) (N := 48) (ci := 8) rfl rfl [0, 15] rfl (by decide) rfl rfl rfl rfl rfl rfl hl.1 (Nat.le_of_ble_eq_true rfl) dX8_blocks_97 ⟨Nat.zero_le _, Nat.zero_le _⟩ (fun H locs hP hD hS => ?_)
        refine lv_iload_n hx hb dX8_blocks_100 rfl (lv_at hl 0 rfl) ?_
        refine lv_iconst (v := 1) hx hb dX8_blocks_101 (by decide) ?_
        refine lv_icmp_ne (tgt := 113) hx hb dX8_blocks_102 (by decide) (fun c13 => ?_) (fun c13 => False.elim (by revert c13; decide))
        refine lv_aload_n hx hb dX8_blocks_113 rfl (lv_at hl 1 rfl) ?_
        refine lv_bipush (v := 105) hx hb dX8_blocks_114 (by decide) ?_
        obtain ⟨r14, hcr14, hM⟩ := ob_use hM
        refine cl_V (As := [.int 105]) (rest := []) (wM0 ad o_X o_L o_N r8 r14 o_O o_E o_Q o_V o_I ++ wMC cI ad o_C ++ wMX cI ad o_X ++ wMN cI ad o_N ++ wMT cI ad r8 ++ wMU cI ad r14) [] ⟨hx, hb, hml, hown, hts⟩ (c_Model_push l D cI sd ad o_C o_X o_L o_N r8 o_O o_E o_Q o_V o_I r12 105 r14 hcr14) (cwV2 hts q1147 mvX8_push rfl rfl ⟨(Nat.le_of_ble_eq_true rfl), (Nat.le_of_ble_eq_true rfl)⟩) hK hE hA hP hD hS 0 (T := TX8) (N := 48) (ci := 8) rfl rfl [0, 15] rfl (by decide) rfl rfl rfl rfl rfl rfl hl.1 (Nat.le_of_ble_eq_true rfl) dX8_blocks_116 ⟨Nat.zero_le _, Nat.zero_le _⟩ (fun H locs hP hD hS => ?_)
        refine lv_aload_n hx hb dX8_blocks_119 rfl (lv_at hl 1 rfl) ?_
        obtain ⟨r15, hcr15, hM⟩ := ob_use hM
        refine cl_V (As := []) (rest := []) (wM0 ad o_X r15.1 r15.2 r8 r14 o_O o_E o_Q o_V o_I ++ wMC cI ad o_C ++ wMX cI ad o_X ++ wMN cI ad r15.2 ++ wMT cI ad r8 ++ wMU cI ad r14) [] ⟨hx, hb, hml, hown, hts⟩ (c_Model_step l D cI sd ad r8 r14 o_O o_E o_Q o_V o_I o_C o_X o_L o_N r15 hcr15) (cwV2 hts q1151 mvX8_step rfl rfl ⟨(Nat.le_of_ble_eq_true rfl), (Nat.le_of_ble_eq_true rfl)⟩) hK hE hA hP hD hS 0 (T := TX8) (N := 48) (ci := 8) rfl rfl [0, 1, 2, 3, 4, 5, 6, 7] rfl (by decide) rfl rfl rfl rfl rfl rfl hl.1 (Nat.le_of_ble_eq_true rfl) dX8_blocks_120 ⟨Nat.zero_le _, Nat.zero_le _⟩ (fun H locs hP hD hS => ?_)
        cases hM
        exact rt_v hx hb hr hlk hP hD hS rfl dX8_blocks_123
    · replace hM := if_t c2 hM
      refine lv_iconst (v := 2) hx hb dX8_blocks_19 (by decide) ?_
      refine lv_goto (tgt := 36) hx hb dX8_blocks_20 (by decide) ?_
      refine lv_istore_n (lv' := [(1, .int 2), (0, .ref (ad 100))]) hx hb dX8_blocks_36 rfl hl (by decide) rfl (fun ls hl => ?_)
      refine lv_iload_n hx hb dX8_blocks_37 rfl (lv_at hl 0 rfl) ?_
      refine lv_if_ne (tgt := 55) hx hb dX8_blocks_38 (by decide) (fun c16 => ?_) (fun c16 => False.elim (by revert c16; decide))
      refine lv_aload_n hx hb dX8_blocks_55 rfl (lv_at hl 1 rfl) ?_
      refine lv_iload_n hx hb dX8_blocks_56 rfl (lv_at hl 0 rfl) ?_
      refine lv_aload_n hx hb dX8_blocks_57 rfl (lv_at hl 1 rfl) ?_
      refine va_get (D := D) (ci := 8) (v := .int o_L.1) (C := RX8) (T := TX8) (N := 48) hx hb hts layX8 hown hK hP 0 rfl rfl 6 (by decide) (hts _ (inA q984)) (fun _ h9 => h9) rfl dX8_blocks_58 ?_
      refine lv_iconst (v := 0) hx hb dX8_blocks_61 (by decide) ?_
      obtain ⟨r17, hcr17, hM⟩ := ob_use hM
      refine cl_V (As := [.int 2, .int o_L.1, .int 0]) (rest := []) (wM0 ad o_X o_L o_N r17 o_U o_O o_E o_Q o_V o_I ++ wMC cI ad o_C ++ wMX cI ad o_X ++ wMN cI ad o_N ++ wMT cI ad r17 ++ wMU cI ad o_U) [] ⟨hx, hb, hml, hown, hts⟩ (c_Model_down l D cI sd ad o_C o_X o_L o_N o_U o_O o_E o_Q o_V o_I o_T 2 o_L.1 0 r17 hcr17) (cwV2 hts q1245 mvX8_down rfl rfl ⟨(Nat.le_of_ble_eq_true rfl), (Nat.le_of_ble_eq_true rfl)⟩) hK hE hA hP hD hS 0 (T := TX8) (N := 48) (ci := 8) rfl rfl [0, 8, 9, 10, 11, 12, 13, 14] rfl (by decide) rfl rfl rfl rfl rfl rfl hl.1 (Nat.le_of_ble_eq_true rfl) dX8_blocks_62 ⟨Nat.zero_le _, Nat.zero_le _⟩ (fun H locs hP hD hS => ?_)
      refine lv_aload_n hx hb dX8_blocks_65 rfl (lv_at hl 1 rfl) ?_
      refine lv_bipush (v := 100) hx hb dX8_blocks_66 (by decide) ?_
      obtain ⟨r18, hcr18, hM⟩ := ob_use hM
      refine cl_V (As := [.int 100]) (rest := []) (wM0 ad o_X o_L o_N r17 r18 o_O o_E o_Q o_V o_I ++ wMC cI ad o_C ++ wMX cI ad o_X ++ wMN cI ad o_N ++ wMT cI ad r17 ++ wMU cI ad r18) [] ⟨hx, hb, hml, hown, hts⟩ (c_Model_push l D cI sd ad o_C o_X o_L o_N r17 o_O o_E o_Q o_V o_I o_U 100 r18 hcr18) (cwV2 hts q1147 mvX8_push rfl rfl ⟨(Nat.le_of_ble_eq_true rfl), (Nat.le_of_ble_eq_true rfl)⟩) hK hE hA hP hD hS 0 (T := TX8) (N := 48) (ci := 8) rfl rfl [0, 15] rfl (by decide) rfl rfl rfl rfl rfl rfl hl.1 (Nat.le_of_ble_eq_true rfl) dX8_blocks_68 ⟨Nat.zero_le _, Nat.zero_le _⟩ (fun H locs hP hD hS => ?_)
      refine lv_aload_n hx hb dX8_blocks_71 rfl (lv_at hl 1 rfl) ?_
      refine lv_bipush (v := 101) hx hb dX8_blocks_72 (by decide) ?_
      refine lv_iload_n hx hb dX8_blocks_74 rfl (lv_at hl 0 rfl) ?_
      refine lv_iconst (v := 1) hx hb dX8_blocks_75 (by decide) ?_
      refine lv_icmp_ne (tgt := 83) hx hb dX8_blocks_76 (by decide) (fun c19 => ?_) (fun c19 => False.elim (by revert c19; decide))
      refine lv_iload_n hx hb dX8_blocks_83 rfl (lv_at hl 0 rfl) ?_
      refine lv_iconst (v := 2) hx hb dX8_blocks_84 (by decide) ?_
      refine lv_icmp_ne (tgt := 92) hx hb dX8_blocks_85 (by decide) (fun c20 => False.elim (by revert c20; decide)) (fun c20 => ?_)
      refine lv_iconst (v := 3) hx hb dX8_blocks_88 (by decide) ?_
      refine lv_goto (tgt := 93) hx hb dX8_blocks_89 (by decide) ?_
      refine lv_bipush (v := 102) hx hb dX8_blocks_93 (by decide) ?_
      refine lv_bipush (v := 103) hx hb dX8_blocks_95 (by decide) ?_
      obtain ⟨r21, hcr21, hM⟩ := ob_use hM
      refine cl_V (As := [.int 101, .int 3, .int 102, .int 103]) (rest := []) (wM0 ad o_X o_L o_N r17 r21 o_O o_E o_Q o_V o_I ++ wMC cI ad o_C ++ wMX cI ad o_X ++ wMN cI ad o_N ++ wMT cI ad r17 ++ wMU cI ad r21) [] ⟨hx, hb, hml, hown, hts⟩ (c_Model_push4 l D cI sd ad o_C o_X o_L o_N r17 o_O o_E o_Q o_V o_I r18 101 3 102 103 r21 hcr21) (cwV2 hts q1253 mvX8_push4 rfl rfl ⟨(Nat.le_of_ble_eq_true rfl), (Nat.le_of_ble_eq_true rfl)⟩) hK hE hA hP hD hS 0 (T := TX8) (N := 48) (ci := 8) rfl rfl [0, 15] rfl (by decide) rfl rfl rfl rfl rfl rfl hl.1 (Nat.le_of_ble_eq_true rfl) dX8_blocks_97 ⟨Nat.zero_le _, Nat.zero_le _⟩ (fun H locs hP hD hS => ?_)
      refine lv_iload_n hx hb dX8_blocks_100 rfl (lv_at hl 0 rfl) ?_
      refine lv_iconst (v := 1) hx hb dX8_blocks_101 (by decide) ?_
      refine lv_icmp_ne (tgt := 113) hx hb dX8_blocks_102 (by decide) (fun c22 => ?_) (fun c22 => False.elim (by revert c22; decide))
      refine lv_aload_n hx hb dX8_blocks_113 rfl (lv_at hl 1 rfl) ?_
      refine lv_bipush (v := 105) hx hb dX8_blocks_114 (by decide) ?_
      obtain ⟨r23, hcr23, hM⟩ := ob_use hM
      refine cl_V (As := [.int 105]) (rest := []) (wM0 ad o_X o_L o_N r17 r23 o_O o_E o_Q o_V o_I ++ wMC cI ad o_C ++ wMX cI ad o_X ++ wMN cI ad o_N ++ wMT cI ad r17 ++ wMU cI ad r23) [] ⟨hx, hb, hml, hown, hts⟩ (c_Model_push l D cI sd ad o_C o_X o_L o_N r17 o_O o_E o_Q o_V o_I r21 105 r23 hcr23) (cwV2 hts q1147 mvX8_push rfl rfl ⟨(Nat.le_of_ble_eq_true rfl), (Nat.le_of_ble_eq_true rfl)⟩) hK hE hA hP hD hS 0 (T := TX8) (N := 48) (ci := 8) rfl rfl [0, 15] rfl (by decide) rfl rfl rfl rfl rfl rfl hl.1 (Nat.le_of_ble_eq_true rfl) dX8_blocks_116 ⟨Nat.zero_le _, Nat.zero_le _⟩ (fun H locs hP hD hS => ?_)
      refine lv_aload_n hx hb dX8_blocks_119 rfl (lv_at hl 1 rfl) ?_
      obtain ⟨r24, hcr24, hM⟩ := ob_use hM
      refine cl_V (As := []) (rest := []) (wM0 ad o_X r24.1 r24.2 r17 r23 o_O o_E o_Q o_V o_I ++ wMC cI ad o_C ++ wMX cI ad o_X ++ wMN cI ad r24.2 ++ wMT cI ad r17 ++ wMU cI ad r23) [] ⟨hx, hb, hml, hown, hts⟩ (c_Model_step l D cI sd ad r17 r23 o_O o_E o_Q o_V o_I o_C o_X o_L o_N r24 hcr24) (cwV2 hts q1151 mvX8_step rfl rfl ⟨(Nat.le_of_ble_eq_true rfl), (Nat.le_of_ble_eq_true rfl)⟩) hK hE hA hP hD hS 0 (T := TX8) (N := 48) (ci := 8) rfl rfl [0, 1, 2, 3, 4, 5, 6, 7] rfl (by decide) rfl rfl rfl rfl rfl rfl hl.1 (Nat.le_of_ble_eq_true rfl) dX8_blocks_120 ⟨Nat.zero_le _, Nat.zero_le _⟩ (fun H locs hP hD hS => ?_)
      cases hM
      exact rt_v hx hb hr hlk hP hD hS rfl dX8_blocks_123
  · replace hM := if_t c1 hM
    refine lv_iconst (v := 1) hx hb dX8_blocks_7 (by decide) ?_
    refine lv_goto (tgt := 36) hx hb dX8_blocks_8 (by decide) ?_
    refine lv_istore_n (lv' := [(1, .int 1), (0, .ref (ad 100))]) hx hb dX8_blocks_36 rfl hl (by decide) rfl (fun ls hl => ?_)
    refine lv_iload_n hx hb dX8_blocks_37 rfl (lv_at hl 0 rfl) ?_
    refine lv_if_ne (tgt := 55) hx hb dX8_blocks_38 (by decide) (fun c25 => ?_) (fun c25 => False.elim (by revert c25; decide))
    refine lv_aload_n hx hb dX8_blocks_55 rfl (lv_at hl 1 rfl) ?_
    refine lv_iload_n hx hb dX8_blocks_56 rfl (lv_at hl 0 rfl) ?_
    refine lv_aload_n hx hb dX8_blocks_57 rfl (lv_at hl 1 rfl) ?_
    refine va_get (D := D) (ci := 8) (v := .int o_L.1) (C := RX8) (T := TX8) (N := 48) hx hb hts layX8 hown hK hP 0 rfl rfl 6 (by decide) (hts _ (inA q984)) (fun _ h9 => h9) rfl dX8_blocks_58 ?_
    refine lv_iconst (v := 0) hx hb dX8_blocks_61 (by decide) ?_
    obtain ⟨r26, hcr26, hM⟩ := ob_use hM
    refine cl_V (As := [.int 1, .int o_L.1, .int 0]) (rest := []) (wM0 ad o_X o_L o_N r26 o_U o_O o_E o_Q o_V o_I ++ wMC cI ad o_C ++ wMX cI ad o_X ++ wMN cI ad o_N ++ wMT cI ad r26 ++ wMU cI ad o_U) [] ⟨hx, hb, hml, hown, hts⟩ (c_Model_down l D cI sd ad o_C o_X o_L o_N o_U o_O o_E o_Q o_V o_I o_T 1 o_L.1 0 r26 hcr26) (cwV2 hts q1245 mvX8_down rfl rfl ⟨(Nat.le_of_ble_eq_true rfl), (Nat.le_of_ble_eq_true rfl)⟩) hK hE hA hP hD hS 0 (T := TX8) (N := 48) (ci := 8) rfl rfl [0, 8, 9, 10, 11, 12, 13, 14] rfl (by decide) rfl rfl rfl rfl rfl rfl hl.1 (Nat.le_of_ble_eq_true rfl) dX8_blocks_62 ⟨Nat.zero_le _, Nat.zero_le _⟩ (fun H locs hP hD hS => ?_)
    refine lv_aload_n hx hb dX8_blocks_65 rfl (lv_at hl 1 rfl) ?_
    refine lv_bipush (v := 100) hx hb dX8_blocks_66 (by decide) ?_
    obtain ⟨r27, hcr27, hM⟩ := ob_use hM
    refine cl_V (As := [.int 100]) (rest := []) (wM0 ad o_X o_L o_N r26 r27 o_O o_E o_Q o_V o_I ++ wMC cI ad o_C ++ wMX cI ad o_X ++ wMN cI ad o_N ++ wMT cI ad r26 ++ wMU cI ad r27) [] ⟨hx, hb, hml, hown, hts⟩ (c_Model_push l D cI sd ad o_C o_X o_L o_N r26 o_O o_E o_Q o_V o_I o_U 100 r27 hcr27) (cwV2 hts q1147 mvX8_push rfl rfl ⟨(Nat.le_of_ble_eq_true rfl), (Nat.le_of_ble_eq_true rfl)⟩) hK hE hA hP hD hS 0 (T := TX8) (N := 48) (ci := 8) rfl rfl [0, 15] rfl (by decide) rfl rfl rfl rfl rfl rfl hl.1 (Nat.le_of_ble_eq_true rfl) dX8_blocks_68 ⟨Nat.zero_le _, Nat.zero_le _⟩ (fun H locs hP hD hS => ?_)
    refine lv_aload_n hx hb dX8_blocks_71 rfl (lv_at hl 1 rfl) ?_
    refine lv_bipush (v := 101) hx hb dX8_blocks_72 (by decide) ?_
    refine lv_iload_n hx hb dX8_blocks_74 rfl (lv_at hl 0 rfl) ?_
    refine lv_iconst (v := 1) hx hb dX8_blocks_75 (by decide) ?_
    refine lv_icmp_ne (tgt := 83) hx hb dX8_blocks_76 (by decide) (fun c28 => False.elim (by revert c28; decide)) (fun c28 => ?_)
    refine lv_iconst (v := 1) hx hb dX8_blocks_79 (by decide) ?_
    refine lv_goto (tgt := 93) hx hb dX8_blocks_80 (by decide) ?_
    refine lv_bipush (v := 102) hx hb dX8_blocks_93 (by decide) ?_
    refine lv_bipush (v := 103) hx hb dX8_blocks_95 (by decide) ?_
    obtain ⟨r29, hcr29, hM⟩ := ob_use hM
    refine cl_V (As := [.int 101, .int 1, .int 102, .int 103]) (rest := []) (wM0 ad o_X o_L o_N r26 r29 o_O o_E o_Q o_V o_I ++ wMC cI ad o_C ++ wMX cI ad o_X ++ wMN cI ad o_N ++ wMT cI ad r26 ++ wMU cI ad r29) [] ⟨hx, hb, hml, hown, hts⟩ (c_Model_push4 l D cI sd ad o_C o_X o_L o_N r26 o_O o_E o_Q o_V o_I r27 101 1 102 103 r29 hcr29) (cwV2 hts q1253 mvX8_push4 rfl rfl ⟨(Nat.le_of_ble_eq_true rfl), (Nat.le_of_ble_eq_true rfl)⟩) hK hE hA hP hD hS 0 (T := TX8) (N := 48) (ci := 8) rfl rfl [0, 15] rfl (by decide) rfl rfl rfl rfl rfl rfl hl.1 (Nat.le_of_ble_eq_true rfl) dX8_blocks_97 ⟨Nat.zero_le _, Nat.zero_le _⟩ (fun H locs hP hD hS => ?_)
    refine lv_iload_n hx hb dX8_blocks_100 rfl (lv_at hl 0 rfl) ?_
    refine lv_iconst (v := 1) hx hb dX8_blocks_101 (by decide) ?_
    refine lv_icmp_ne (tgt := 113) hx hb dX8_blocks_102 (by decide) (fun c30 => False.elim (by revert c30; decide)) (fun c30 => ?_)
    refine lv_aload_n hx hb dX8_blocks_105 rfl (lv_at hl 1 rfl) ?_
    refine lv_bipush (v := 104) hx hb dX8_blocks_106 (by decide) ?_
    refine lv_bipush (v := 61) hx hb dX8_blocks_108 (by decide) ?_
    obtain ⟨r31, hcr31, hM⟩ := ob_use hM
    refine cl_V (As := [.int 104, .int 61]) (rest := []) (wM0 ad o_X o_L o_N r26 r31 o_O o_E o_Q o_V o_I ++ wMC cI ad o_C ++ wMX cI ad o_X ++ wMN cI ad o_N ++ wMT cI ad r26 ++ wMU cI ad r31) [] ⟨hx, hb, hml, hown, hts⟩ (c_Model_push2 l D cI sd ad o_C o_X o_L o_N r26 o_O o_E o_Q o_V o_I r29 104 61 r31 hcr31) (cwV2 hts q1257 mvX8_push2 rfl rfl ⟨(Nat.le_of_ble_eq_true rfl), (Nat.le_of_ble_eq_true rfl)⟩) hK hE hA hP hD hS 0 (T := TX8) (N := 48) (ci := 8) rfl rfl [0, 15] rfl (by decide) rfl rfl rfl rfl rfl rfl hl.1 (Nat.le_of_ble_eq_true rfl) dX8_blocks_110 ⟨Nat.zero_le _, Nat.zero_le _⟩ (fun H locs hP hD hS => ?_)
    refine lv_aload_n hx hb dX8_blocks_113 rfl (lv_at hl 1 rfl) ?_
    refine lv_bipush (v := 105) hx hb dX8_blocks_114 (by decide) ?_
    obtain ⟨r32, hcr32, hM⟩ := ob_use hM
    refine cl_V (As := [.int 105]) (rest := []) (wM0 ad o_X o_L o_N r26 r32 o_O o_E o_Q o_V o_I ++ wMC cI ad o_C ++ wMX cI ad o_X ++ wMN cI ad o_N ++ wMT cI ad r26 ++ wMU cI ad r32) [] ⟨hx, hb, hml, hown, hts⟩ (c_Model_push l D cI sd ad o_C o_X o_L o_N r26 o_O o_E o_Q o_V o_I r31 105 r32 hcr32) (cwV2 hts q1147 mvX8_push rfl rfl ⟨(Nat.le_of_ble_eq_true rfl), (Nat.le_of_ble_eq_true rfl)⟩) hK hE hA hP hD hS 0 (T := TX8) (N := 48) (ci := 8) rfl rfl [0, 15] rfl (by decide) rfl rfl rfl rfl rfl rfl hl.1 (Nat.le_of_ble_eq_true rfl) dX8_blocks_116 ⟨Nat.zero_le _, Nat.zero_le _⟩ (fun H locs hP hD hS => ?_)
    refine lv_aload_n hx hb dX8_blocks_119 rfl (lv_at hl 1 rfl) ?_
    obtain ⟨r33, hcr33, hM⟩ := ob_use hM
    refine cl_V (As := []) (rest := []) (wM0 ad o_X r33.1 r33.2 r26 r32 o_O o_E o_Q o_V o_I ++ wMC cI ad o_C ++ wMX cI ad o_X ++ wMN cI ad r33.2 ++ wMT cI ad r26 ++ wMU cI ad r32) [] ⟨hx, hb, hml, hown, hts⟩ (c_Model_step l D cI sd ad r26 r32 o_O o_E o_Q o_V o_I o_C o_X o_L o_N r33 hcr33) (cwV2 hts q1151 mvX8_step rfl rfl ⟨(Nat.le_of_ble_eq_true rfl), (Nat.le_of_ble_eq_true rfl)⟩) hK hE hA hP hD hS 0 (T := TX8) (N := 48) (ci := 8) rfl rfl [0, 1, 2, 3, 4, 5, 6, 7] rfl (by decide) rfl rfl rfl rfl rfl rfl hl.1 (Nat.le_of_ble_eq_true rfl) dX8_blocks_120 ⟨Nat.zero_le _, Nat.zero_le _⟩ (fun H locs hP hD hS => ?_)
    cases hM
    exact rt_v hx hb hr hlk hP hD hS rfl dX8_blocks_123

set_option maxHeartbeats 4000000 in
set_option maxRecDepth 100000 in
theorem c_Model_title (l : Launch) (D : va_G) (cI : ClassId) (sd : Nat → Nat) (ad : Nat → Nat) (o_U : S_MU) (o_O : S_MO) (o_E : S_ME) (o_Q : S_MQ) (o_V : S_MV) (o_I : S_MI) (o_C : S_MC) (o_X : S_MX) (o_L : S_ML) (o_N : S_MN) (o_T : S_MT) (res : S_ML × S_MN × S_MT) (hM : f_Model_title o_C o_X o_L o_N o_T = some res) : Ctr l D cI sd yX8_title (wsM yX8_title cX8_title 1 (Option.none : Option Jvm.ClassFile.FieldType)) { frames := 6, cells := 0, slots := 0, locals := 133 } [.ref (ad 100)] (wM0 ad o_X o_L o_N o_T o_U o_O o_E o_Q o_V o_I ++ wMC cI ad o_C ++ wMX cI ad o_X ++ wMN cI ad o_N ++ wMT cI ad o_T) (wM0 ad o_X res.1 res.2.1 res.2.2 o_U o_O o_E o_Q o_V o_I ++ wMC cI ad o_C ++ wMX cI ad o_X ++ wMN cI ad res.2.1 ++ wMT cI ad res.2.2) none := by
  refine Ctr.of (cc := cX8_title) (maxL := 1) (own := RX8) (by decide +kernel) rfl rfl (Nat.le_of_ble_eq_true rfl) ?_
  intro p e s m below meth c A ls hx hb hr hml hown hts hlk hK hE hA hP hD hS hl
  have hl : lv_has ls 1 [(0, .ref (ad 100))] := hl
  unfold f_Model_title at hM
  refine lv_aload_n hx hb dX8_title_0 rfl (lv_at hl 0 rfl) ?_
  refine va_get (D := D) (ci := 8) (v := .ref (ad 110)) (C := RX8) (T := TX8) (N := 48) hx hb hts layX8 hown hK hP 0 rfl rfl 19 (by decide) (hts _ (inA q997)) (fun _ h9 => h9) rfl dX8_title_1 ?_
  refine lv_aload_n hx hb dX8_title_4 rfl (lv_at hl 0 rfl) ?_
  refine va_get (D := D) (ci := 8) (v := .int o_T.2.1) (C := RX8) (T := TX8) (N := 48) hx hb hts layX8 hown hK hP 0 rfl rfl 24 (by decide) (hts _ (inA q1002)) (fun _ h9 => h9) rfl dX8_title_5 ?_
  refine lv_aload_n hx hb dX8_title_8 rfl (lv_at hl 0 rfl) ?_
  refine va_get (D := D) (ci := 8) (v := .int o_L.2.2.1) (C := RX8) (T := TX8) (N := 48) hx hb hts layX8 hown hK hP 0 rfl rfl 8 (by decide) (hts _ (inA q986)) (fun _ h9 => h9) rfl dX8_title_9 ?_
  obtain ⟨b1, hM⟩ := gd_use hM
  refine va_iast hx hb hK hP hD hS 10 0 rfl rfl b1 dX8_title_12 (fun H locs hP hD hS => ?_)
  have hP : va_P D vwCl (wM0 ad o_X o_L o_N (o_T.1, o_T.2.1, o_T.2.2.1, o_T.2.2.2.1, upd o_T.2.2.2.2.1 o_T.2.1.toNatClampNeg o_L.2.2.1, o_T.2.2.2.2.2) o_U o_O o_E o_Q o_V o_I ++ wMC cI ad o_C ++ wMX cI ad o_X ++ wMN cI ad o_N ++ wMT cI ad (o_T.1, o_T.2.1, o_T.2.2.1, o_T.2.2.2.1, upd o_T.2.2.2.2.1 o_T.2.1.toNatClampNeg o_L.2.2.1, o_T.2.2.2.2.2)) H := hP
  have hD : va_D A (wM0 ad o_X o_L o_N (o_T.1, o_T.2.1, o_T.2.2.1, o_T.2.2.2.1, upd o_T.2.2.2.2.1 o_T.2.1.toNatClampNeg o_L.2.2.1, o_T.2.2.2.2.2) o_U o_O o_E o_Q o_V o_I ++ wMC cI ad o_C ++ wMX cI ad o_X ++ wMN cI ad o_N ++ wMT cI ad (o_T.1, o_T.2.1, o_T.2.2.1, o_T.2.2.2.1, upd o_T.2.2.2.2.1 o_T.2.1.toNatClampNeg o_L.2.2.1, o_T.2.2.2.2.2)) := hD
  refine lv_aload_n hx hb dX8_title_13 rfl (lv_at hl 0 rfl) ?_
  refine lv_bipush (v := 80) hx hb dX8_title_14 (by decide) ?_
  obtain ⟨r2, hcr2, hM⟩ := ob_use hM
  refine cl_V (As := [.int 80]) (rest := []) (wM0 ad o_X r2.1 r2.2 (o_T.1, o_T.2.1, o_T.2.2.1, o_T.2.2.2.1, upd o_T.2.2.2.2.1 o_T.2.1.toNatClampNeg o_L.2.2.1, o_T.2.2.2.2.2) o_U o_O o_E o_Q o_V o_I ++ wMC cI ad o_C ++ wMX cI ad o_X ++ wMN cI ad r2.2 ++ wMT cI ad (o_T.1, o_T.2.1, o_T.2.2.1, o_T.2.2.2.1, upd o_T.2.2.2.2.1 o_T.2.1.toNatClampNeg o_L.2.2.1, o_T.2.2.2.2.2)) [] ⟨hx, hb, hml, hown, hts⟩ (c_Model_pass l D cI sd ad (o_T.1, o_T.2.1, o_T.2.2.1, o_T.2.2.2.1, upd o_T.2.2.2.2.1 o_T.2.1.toNatClampNeg o_L.2.2.1, o_T.2.2.2.2.2) o_U o_O o_E o_Q o_V o_I o_C o_X o_L o_N 80 r2 hcr2) (cwV2 hts q1229 mvX8_pass rfl rfl ⟨(Nat.le_of_ble_eq_true rfl), (Nat.le_of_ble_eq_true rfl)⟩) hK hE hA hP hD hS 0 (T := TX8) (N := 48) (ci := 8) rfl rfl [0, 1, 2, 3, 4, 5, 6, 7] rfl (by decide) rfl rfl rfl rfl rfl rfl hl.1 (Nat.le_of_ble_eq_true rfl) dX8_title_16 ⟨Nat.zero_le _, Nat.zero_le _⟩ (fun H locs hP hD hS => ?_)
  cases hM
  exact rt_v hx hb hr hlk hP hD hS rfl dX8_title_19

set_option maxHeartbeats 4000000 in
set_option maxRecDepth 100000 in
theorem c_Model_sections (l : Launch) (D : va_G) (cI : ClassId) (sd : Nat → Nat) (ad : Nat → Nat) (o_O : S_MO) (o_E : S_ME) (o_Q : S_MQ) (o_V : S_MV) (o_I : S_MI) (o_C : S_MC) (o_X : S_MX) (o_L : S_ML) (o_N : S_MN) (o_T : S_MT) (o_U : S_MU) (res : S_ML × S_MN × S_MT × S_MU) (hM : f_Model_sections o_C o_X o_L o_N o_T o_U = some res) : Ctr l D cI sd yX8_sections (wsM yX8_sections cX8_sections 1 (Option.none : Option Jvm.ClassFile.FieldType)) { frames := 5, cells := 0, slots := 0, locals := 112 } [.ref (ad 100)] (wM0 ad o_X o_L o_N o_T o_U o_O o_E o_Q o_V o_I ++ wMC cI ad o_C ++ wMX cI ad o_X ++ wMN cI ad o_N ++ wMT cI ad o_T ++ wMU cI ad o_U) (wM0 ad o_X res.1 res.2.1 res.2.2.1 res.2.2.2 o_O o_E o_Q o_V o_I ++ wMC cI ad o_C ++ wMX cI ad o_X ++ wMN cI ad res.2.1 ++ wMT cI ad res.2.2.1 ++ wMU cI ad res.2.2.2) none := by
  refine Ctr.of (cc := cX8_sections) (maxL := 1) (own := RX8) (by decide +kernel) rfl rfl (Nat.le_of_ble_eq_true rfl) ?_
  intro p e s m below meth c A ls hx hb hr hml hown hts hlk hK hE hA hP hD hS hl
  have hl : lv_has ls 1 [(0, .ref (ad 100))] := hl
  unfold f_Model_sections at hM
  refine lv_aload_n hx hb dX8_sections_0 rfl (lv_at hl 0 rfl) ?_
  refine va_get (D := D) (ci := 8) (v := .int o_L.2.1) (C := RX8) (T := TX8) (N := 48) hx hb hts layX8 hown hK hP 0 rfl rfl 7 (by decide) (hts _ (inA q985)) (fun _ h9 => h9) rfl dX8_sections_1 ?_
  refine lv_bipush (v := 6) hx hb dX8_sections_4 (by decide) ?_
  refine lv_icmp_lt (tgt := 50) hx hb dX8_sections_6 (by decide) (fun c1 => ?_) (fun c1 => ?_)
  · replace hM := if_t c1 hM
    cases hM
    exact rt_v hx hb hr hlk hP hD hS rfl dX8_sections_50
  · replace hM := if_f c1 hM
    refine lv_aload_n hx hb dX8_sections_9 rfl (lv_at hl 0 rfl) ?_
    refine va_get (D := D) (ci := 8) (v := .int o_L.2.1) (C := RX8) (T := TX8) (N := 48) hx hb hts layX8 hown hK hP 0 rfl rfl 7 (by decide) (hts _ (inA q985)) (fun _ h9 => h9) rfl dX8_sections_10 ?_
    refine lv_bipush (v := 8) hx hb dX8_sections_13 (by decide) ?_
    refine lv_icmp_gt (tgt := 50) hx hb dX8_sections_15 (by decide) (fun c2 => ?_) (fun c2 => ?_)
    · replace hM := if_t c2 hM
      cases hM
      exact rt_v hx hb hr hlk hP hD hS rfl dX8_sections_50
    · replace hM := if_f c2 hM
      refine lv_aload_n hx hb dX8_sections_18 rfl (lv_at hl 0 rfl) ?_
      refine lv_iconst (v := 4) hx hb dX8_sections_19 (by decide) ?_
      refine lv_aload_n hx hb dX8_sections_20 rfl (lv_at hl 0 rfl) ?_
      refine va_get (D := D) (ci := 8) (v := .int o_L.1) (C := RX8) (T := TX8) (N := 48) hx hb hts layX8 hown hK hP 0 rfl rfl 6 (by decide) (hts _ (inA q984)) (fun _ h9 => h9) rfl dX8_sections_21 ?_
      refine lv_aload_n hx hb dX8_sections_24 rfl (lv_at hl 0 rfl) ?_
      refine va_get (D := D) (ci := 8) (v := .int o_L.2.1) (C := RX8) (T := TX8) (N := 48) hx hb hts layX8 hown hK hP 0 rfl rfl 7 (by decide) (hts _ (inA q985)) (fun _ h9 => h9) rfl dX8_sections_25 ?_
      refine lv_bipush (v := 6) hx hb dX8_sections_28 (by decide) ?_
      refine lv_isub hx hb dX8_sections_30 ?_
      obtain ⟨r3, hcr3, hM⟩ := ob_use hM
      refine cl_V (As := [.int 4, .int o_L.1, .int (o_L.2.1 - 6)]) (rest := []) (wM0 ad o_X o_L o_N r3 o_U o_O o_E o_Q o_V o_I ++ wMC cI ad o_C ++ wMX cI ad o_X ++ wMN cI ad o_N ++ wMT cI ad r3 ++ wMU cI ad o_U) [] ⟨hx, hb, hml, hown, hts⟩ (c_Model_down l D cI sd ad o_C o_X o_L o_N o_U o_O o_E o_Q o_V o_I o_T 4 o_L.1 (o_L.2.1 - 6) r3 hcr3) (cwV2 hts q1245 mvX8_down rfl rfl ⟨(Nat.le_of_ble_eq_true rfl), (Nat.le_of_ble_eq_true rfl)⟩) hK hE hA hP hD hS 0 (T := TX8) (N := 48) (ci := 8) rfl rfl [0, 8, 9, 10, 11, 12, 13, 14] rfl (by decide) rfl rfl rfl rfl rfl rfl hl.1 (Nat.le_of_ble_eq_true rfl) dX8_sections_31 ⟨Nat.zero_le _, Nat.zero_le _⟩ (fun H locs hP hD hS => ?_)
      refine lv_aload_n hx hb dX8_sections_34 rfl (lv_at hl 0 rfl) ?_
      obtain ⟨r4, hcr4, hM⟩ := ob_use hM
      refine cl_V (As := []) (rest := []) (wM0 ad o_X r4.1 r4.2 r3 o_U o_O o_E o_Q o_V o_I ++ wMC cI ad o_C ++ wMX cI ad o_X ++ wMN cI ad r4.2 ++ wMT cI ad r3 ++ wMU cI ad o_U) [] ⟨hx, hb, hml, hown, hts⟩ (c_Model_step l D cI sd ad r3 o_U o_O o_E o_Q o_V o_I o_C o_X o_L o_N r4 hcr4) (cwV2 hts q1151 mvX8_step rfl rfl ⟨(Nat.le_of_ble_eq_true rfl), (Nat.le_of_ble_eq_true rfl)⟩) hK hE hA hP hD hS 0 (T := TX8) (N := 48) (ci := 8) rfl rfl [0, 1, 2, 3, 4, 5, 6, 7] rfl (by decide) rfl rfl rfl rfl rfl rfl hl.1 (Nat.le_of_ble_eq_true rfl) dX8_sections_35 ⟨Nat.zero_le _, Nat.zero_le _⟩ (fun H locs hP hD hS => ?_)
      refine lv_aload_n hx hb dX8_sections_38 rfl (lv_at hl 0 rfl) ?_
      refine lv_bipush (v := 103) hx hb dX8_sections_39 (by decide) ?_
      refine lv_bipush (v := 101) hx hb dX8_sections_41 (by decide) ?_
      refine lv_bipush (v := 9) hx hb dX8_sections_43 (by decide) ?_
      refine lv_bipush (v := 106) hx hb dX8_sections_45 (by decide) ?_
      obtain ⟨r5, hcr5, hM⟩ := ob_use hM
      refine cl_V (As := [.int 103, .int 101, .int 9, .int 106]) (rest := []) (wM0 ad o_X r4.1 r4.2 r3 r5 o_O o_E o_Q o_V o_I ++ wMC cI ad o_C ++ wMX cI ad o_X ++ wMN cI ad r4.2 ++ wMT cI ad r3 ++ wMU cI ad r5) [] ⟨hx, hb, hml, hown, hts⟩ (c_Model_push4 l D cI sd ad o_C o_X r4.1 r4.2 r3 o_O o_E o_Q o_V o_I o_U 103 101 9 106 r5 hcr5) (cwV2 hts q1253 mvX8_push4 rfl rfl ⟨(Nat.le_of_ble_eq_true rfl), (Nat.le_of_ble_eq_true rfl)⟩) hK hE hA hP hD hS 0 (T := TX8) (N := 48) (ci := 8) rfl rfl [0, 15] rfl (by decide) rfl rfl rfl rfl rfl rfl hl.1 (Nat.le_of_ble_eq_true rfl) dX8_sections_47 ⟨Nat.zero_le _, Nat.zero_le _⟩ (fun H locs hP hD hS => ?_)
      cases hM
      exact rt_v hx hb hr hlk hP hD hS rfl dX8_sections_50

set_option maxHeartbeats 4000000 in
set_option maxRecDepth 100000 in
theorem c_Model_body (l : Launch) (D : va_G) (cI : ClassId) (sd : Nat → Nat) (ad : Nat → Nat) (o_O : S_MO) (o_E : S_ME) (o_Q : S_MQ) (o_V : S_MV) (o_I : S_MI) (o_C : S_MC) (o_X : S_MX) (o_L : S_ML) (o_N : S_MN) (o_T : S_MT) (o_U : S_MU) (res : S_ML × S_MN × S_MT × S_MU) (hM : f_Model_body o_C o_X o_L o_N o_T o_U = some res) : Ctr l D cI sd yX8_body (wsM yX8_body cX8_body 1 (Option.none : Option Jvm.ClassFile.FieldType)) { frames := 5, cells := 0, slots := 0, locals := 112 } [.ref (ad 100)] (wM0 ad o_X o_L o_N o_T o_U o_O o_E o_Q o_V o_I ++ wMC cI ad o_C ++ wMX cI ad o_X ++ wMN cI ad o_N ++ wMT cI ad o_T ++ wMU cI ad o_U) (wM0 ad o_X res.1 res.2.1 res.2.2.1 res.2.2.2 o_O o_E o_Q o_V o_I ++ wMC cI ad o_C ++ wMX cI ad o_X ++ wMN cI ad res.2.1 ++ wMT cI ad res.2.2.1 ++ wMU cI ad res.2.2.2) none := by
  refine Ctr.of (cc := cX8_body) (maxL := 1) (own := RX8) (by decide +kernel) rfl rfl (Nat.le_of_ble_eq_true rfl) ?_
  intro p e s m below meth c A ls hx hb hr hml hown hts hlk hK hE hA hP hD hS hl
  have hl : lv_has ls 1 [(0, .ref (ad 100))] := hl
  unfold f_Model_body at hM
  refine lv_aload_n hx hb dX8_body_0 rfl (lv_at hl 0 rfl) ?_
  refine va_get (D := D) (ci := 8) (v := .int o_L.2.1) (C := RX8) (T := TX8) (N := 48) hx hb hts layX8 hown hK hP 0 rfl rfl 7 (by decide) (hts _ (inA q985)) (fun _ h9 => h9) rfl dX8_body_1 ?_
  refine lv_bipush (v := 37) hx hb dX8_body_4 (by decide) ?_
  refine lv_icmp_ne (tgt := 42) hx hb dX8_body_6 (by decide) (fun c1 => ?_) (fun c1 => ?_)
  · replace hM := if_f c1 hM
    refine lv_aload_n hx hb dX8_body_42 rfl (lv_at hl 0 rfl) ?_
    refine lv_bipush (v := 11) hx hb dX8_body_43 (by decide) ?_
    refine lv_aload_n hx hb dX8_body_45 rfl (lv_at hl 0 rfl) ?_
    refine va_get (D := D) (ci := 8) (v := .int o_L.2.2.2.2.1) (C := RX8) (T := TX8) (N := 48) hx hb hts layX8 hown hK hP 0 rfl rfl 10 (by decide) (hts _ (inA q988)) (fun _ h9 => h9) rfl dX8_body_46 ?_
    refine lv_iconst (v := 0) hx hb dX8_body_49 (by decide) ?_
    obtain ⟨r2, hcr2, hM⟩ := ob_use hM
    refine cl_V (As := [.int 11, .int o_L.2.2.2.2.1, .int 0]) (rest := []) (wM0 ad o_X o_L o_N r2 o_U o_O o_E o_Q o_V o_I ++ wMC cI ad o_C ++ wMX cI ad o_X ++ wMN cI ad o_N ++ wMT cI ad r2 ++ wMU cI ad o_U) [] ⟨hx, hb, hml, hown, hts⟩ (c_Model_down l D cI sd ad o_C o_X o_L o_N o_U o_O o_E o_Q o_V o_I o_T 11 o_L.2.2.2.2.1 0 r2 hcr2) (cwV2 hts q1245 mvX8_down rfl rfl ⟨(Nat.le_of_ble_eq_true rfl), (Nat.le_of_ble_eq_true rfl)⟩) hK hE hA hP hD hS 0 (T := TX8) (N := 48) (ci := 8) rfl rfl [0, 8, 9, 10, 11, 12, 13, 14] rfl (by decide) rfl rfl rfl rfl rfl rfl hl.1 (Nat.le_of_ble_eq_true rfl) dX8_body_50 ⟨Nat.zero_le _, Nat.zero_le _⟩ (fun H locs hP hD hS => ?_)
    refine lv_aload_n hx hb dX8_body_53 rfl (lv_at hl 0 rfl) ?_
    refine lv_bipush (v := 101) hx hb dX8_body_54 (by decide) ?_
    refine lv_bipush (v := 115) hx hb dX8_body_56 (by decide) ?_
    obtain ⟨r3, hcr3, hM⟩ := ob_use hM
    refine cl_V (As := [.int 101, .int 115]) (rest := []) (wM0 ad o_X o_L o_N r2 r3 o_O o_E o_Q o_V o_I ++ wMC cI ad o_C ++ wMX cI ad o_X ++ wMN cI ad o_N ++ wMT cI ad r2 ++ wMU cI ad r3) [] ⟨hx, hb, hml, hown, hts⟩ (c_Model_push2 l D cI sd ad o_C o_X o_L o_N r2 o_O o_E o_Q o_V o_I o_U 101 115 r3 hcr3) (cwV2 hts q1257 mvX8_push2 rfl rfl ⟨(Nat.le_of_ble_eq_true rfl), (Nat.le_of_ble_eq_true rfl)⟩) hK hE hA hP hD hS 0 (T := TX8) (N := 48) (ci := 8) rfl rfl [0, 15] rfl (by decide) rfl rfl rfl rfl rfl rfl hl.1 (Nat.le_of_ble_eq_true rfl) dX8_body_58 ⟨Nat.zero_le _, Nat.zero_le _⟩ (fun H locs hP hD hS => ?_)
    cases hM
    exact rt_v hx hb hr hlk hP hD hS rfl dX8_body_61
  · replace hM := if_t c1 hM
    refine lv_aload_n hx hb dX8_body_9 rfl (lv_at hl 0 rfl) ?_
    refine lv_bipush (v := 22) hx hb dX8_body_10 (by decide) ?_
    refine lv_aload_n hx hb dX8_body_12 rfl (lv_at hl 0 rfl) ?_
    refine va_get (D := D) (ci := 8) (v := .int o_L.1) (C := RX8) (T := TX8) (N := 48) hx hb hts layX8 hown hK hP 0 rfl rfl 6 (by decide) (hts _ (inA q984)) (fun _ h9 => h9) rfl dX8_body_13 ?_
    refine lv_iconst (v := 0) hx hb dX8_body_16 (by decide) ?_
    obtain ⟨r4, hcr4, hM⟩ := ob_use hM
    refine cl_V (As := [.int 22, .int o_L.1, .int 0]) (rest := []) (wM0 ad o_X o_L o_N r4 o_U o_O o_E o_Q o_V o_I ++ wMC cI ad o_C ++ wMX cI ad o_X ++ wMN cI ad o_N ++ wMT cI ad r4 ++ wMU cI ad o_U) [] ⟨hx, hb, hml, hown, hts⟩ (c_Model_down l D cI sd ad o_C o_X o_L o_N o_U o_O o_E o_Q o_V o_I o_T 22 o_L.1 0 r4 hcr4) (cwV2 hts q1245 mvX8_down rfl rfl ⟨(Nat.le_of_ble_eq_true rfl), (Nat.le_of_ble_eq_true rfl)⟩) hK hE hA hP hD hS 0 (T := TX8) (N := 48) (ci := 8) rfl rfl [0, 8, 9, 10, 11, 12, 13, 14] rfl (by decide) rfl rfl rfl rfl rfl rfl hl.1 (Nat.le_of_ble_eq_true rfl) dX8_body_17 ⟨Nat.zero_le _, Nat.zero_le _⟩ (fun H locs hP hD hS => ?_)
    refine lv_aload_n hx hb dX8_body_20 rfl (lv_at hl 0 rfl) ?_
    obtain ⟨r5, hcr5, hM⟩ := ob_use hM
    refine cl_V (As := []) (rest := []) (wM0 ad o_X r5.1 r5.2 r4 o_U o_O o_E o_Q o_V o_I ++ wMC cI ad o_C ++ wMX cI ad o_X ++ wMN cI ad r5.2 ++ wMT cI ad r4 ++ wMU cI ad o_U) [] ⟨hx, hb, hml, hown, hts⟩ (c_Model_step l D cI sd ad r4 o_U o_O o_E o_Q o_V o_I o_C o_X o_L o_N r5 hcr5) (cwV2 hts q1151 mvX8_step rfl rfl ⟨(Nat.le_of_ble_eq_true rfl), (Nat.le_of_ble_eq_true rfl)⟩) hK hE hA hP hD hS 0 (T := TX8) (N := 48) (ci := 8) rfl rfl [0, 1, 2, 3, 4, 5, 6, 7] rfl (by decide) rfl rfl rfl rfl rfl rfl hl.1 (Nat.le_of_ble_eq_true rfl) dX8_body_21 ⟨Nat.zero_le _, Nat.zero_le _⟩ (fun H locs hP hD hS => ?_)
    refine lv_aload_n hx hb dX8_body_24 rfl (lv_at hl 0 rfl) ?_
    refine lv_bipush (v := 101) hx hb dX8_body_25 (by decide) ?_
    refine lv_bipush (v := 38) hx hb dX8_body_27 (by decide) ?_
    obtain ⟨r6, hcr6, hM⟩ := ob_use hM
    refine cl_V (As := [.int 101, .int 38]) (rest := []) (wM0 ad o_X r5.1 r5.2 r4 r6 o_O o_E o_Q o_V o_I ++ wMC cI ad o_C ++ wMX cI ad o_X ++ wMN cI ad r5.2 ++ wMT cI ad r4 ++ wMU cI ad r6) [] ⟨hx, hb, hml, hown, hts⟩ (c_Model_push2 l D cI sd ad o_C o_X r5.1 r5.2 r4 o_O o_E o_Q o_V o_I o_U 101 38 r6 hcr6) (cwV2 hts q1257 mvX8_push2 rfl rfl ⟨(Nat.le_of_ble_eq_true rfl), (Nat.le_of_ble_eq_true rfl)⟩) hK hE hA hP hD hS 0 (T := TX8) (N := 48) (ci := 8) rfl rfl [0, 15] rfl (by decide) rfl rfl rfl rfl rfl rfl hl.1 (Nat.le_of_ble_eq_true rfl) dX8_body_29 ⟨Nat.zero_le _, Nat.zero_le _⟩ (fun H locs hP hD hS => ?_)
    refine lv_aload_n hx hb dX8_body_32 rfl (lv_at hl 0 rfl) ?_
    refine lv_sipush (v := 150) hx hb dX8_body_33 (by decide) ?_
    obtain ⟨r7, hcr7, hM⟩ := ob_use hM
    refine cl_V (As := [.int 150]) (rest := []) (wM0 ad o_X r5.1 r5.2 r4 r7 o_O o_E o_Q o_V o_I ++ wMC cI ad o_C ++ wMX cI ad o_X ++ wMN cI ad r5.2 ++ wMT cI ad r4 ++ wMU cI ad r7) [] ⟨hx, hb, hml, hown, hts⟩ (c_Model_push l D cI sd ad o_C o_X r5.1 r5.2 r4 o_O o_E o_Q o_V o_I r6 150 r7 hcr7) (cwV2 hts q1147 mvX8_push rfl rfl ⟨(Nat.le_of_ble_eq_true rfl), (Nat.le_of_ble_eq_true rfl)⟩) hK hE hA hP hD hS 0 (T := TX8) (N := 48) (ci := 8) rfl rfl [0, 15] rfl (by decide) rfl rfl rfl rfl rfl rfl hl.1 (Nat.le_of_ble_eq_true rfl) dX8_body_36 ⟨Nat.zero_le _, Nat.zero_le _⟩ (fun H locs hP hD hS => ?_)
    refine lv_goto (tgt := 61) hx hb dX8_body_39 (by decide) ?_
    cases hM
    exact rt_v hx hb hr hlk hP hD hS rfl dX8_body_61

set_option maxHeartbeats 4000000 in
set_option maxRecDepth 100000 in
theorem c_Model_bodyBehind (l : Launch) (D : va_G) (cI : ClassId) (sd : Nat → Nat) (ad : Nat → Nat) (o_O : S_MO) (o_E : S_ME) (o_Q : S_MQ) (o_V : S_MV) (o_I : S_MI) (o_C : S_MC) (o_X : S_MX) (o_L : S_ML) (o_N : S_MN) (o_T : S_MT) (o_U : S_MU) (a1 : Int32) (res : S_ML × S_MN × S_MT × S_MU) (hM : f_Model_bodyBehind o_C o_X o_L o_N o_T o_U a1 = some res) : Ctr l D cI sd yX8_bodyBehind (wsM yX8_bodyBehind cX8_bodyBehind 3 (Option.none : Option Jvm.ClassFile.FieldType)) { frames := 6, cells := 0, slots := 0, locals := 133 } [.ref (ad 100), .int a1] (wM0 ad o_X o_L o_N o_T o_U o_O o_E o_Q o_V o_I ++ wMC cI ad o_C ++ wMX cI ad o_X ++ wMN cI ad o_N ++ wMT cI ad o_T ++ wMU cI ad o_U) (wM0 ad o_X res.1 res.2.1 res.2.2.1 res.2.2.2 o_O o_E o_Q o_V o_I ++ wMC cI ad o_C ++ wMX cI ad o_X ++ wMN cI ad res.2.1 ++ wMT cI ad res.2.2.1 ++ wMU cI ad res.2.2.2) none := by
  refine Ctr.of (cc := cX8_bodyBehind) (maxL := 3) (own := RX8) (by decide +kernel) rfl rfl (Nat.le_of_ble_eq_true rfl) ?_
  intro p e s m below meth c A ls hx hb hr hml hown hts hlk hK hE hA hP hD hS hl
  have hl : lv_has ls 3 [(0, .ref (ad 100)), (1, .int a1)] := hl
  unfold f_Model_bodyBehind at hM
  refine lv_aload_n hx hb dX8_bodyBehind_0 rfl (lv_at hl 0 rfl) ?_
  refine va_get (D := D) (ci := 8) (v := .int o_L.1) (C := RX8) (T := TX8) (N := 48) hx hb hts layX8 hown hK hP 0 rfl rfl 6 (by decide) (hts _ (inA q984)) (fun _ h9 => h9) rfl dX8_bodyBehind_1 ?_
  refine lv_istore_n (lv' := [(2, .int o_L.1), (0, .ref (ad 100)), (1, .int a1)]) hx hb dX8_bodyBehind_4 rfl hl (by decide) rfl (fun ls hl => ?_)
  refine lv_aload_n hx hb dX8_bodyBehind_5 rfl (lv_at hl 1 rfl) ?_
  refine lv_iload_n hx hb dX8_bodyBehind_6 rfl (lv_at hl 2 rfl) ?_
  obtain ⟨r1, hcr1, hM⟩ := ob_use hM
  refine cl_V (As := [.int a1]) (rest := []) (wM0 ad o_X r1.1 r1.2 o_T o_U o_O o_E o_Q o_V o_I ++ wMC cI ad o_C ++ wMX cI ad o_X ++ wMN cI ad r1.2 ++ wMT cI ad o_T ++ wMU cI ad o_U) [] ⟨hx, hb, hml, hown, hts⟩ (c_Model_pass l D cI sd ad o_T o_U o_O o_E o_Q o_V o_I o_C o_X o_L o_N a1 r1 hcr1) (cwV2 hts q1229 mvX8_pass rfl rfl ⟨(Nat.le_of_ble_eq_true rfl), (Nat.le_of_ble_eq_true rfl)⟩) hK hE hA hP hD hS 0 (T := TX8) (N := 48) (ci := 8) rfl rfl [0, 1, 2, 3, 4, 5, 6, 7] rfl (by decide) rfl rfl rfl rfl rfl rfl hl.1 (Nat.le_of_ble_eq_true rfl) dX8_bodyBehind_7 ⟨Nat.zero_le _, Nat.zero_le _⟩ (fun H locs hP hD hS => ?_)
  refine lv_aload_n hx hb dX8_bodyBehind_10 rfl (lv_at hl 1 rfl) ?_
  refine va_get (D := D) (ci := 8) (v := .int r1.1.2.2.2.2.2.1) (C := RX8) (T := TX8) (N := 48) hx hb hts layX8 hown hK hP 0 rfl rfl 11 (by decide) (hts _ (inA q989)) (fun _ h9 => h9) rfl dX8_bodyBehind_11 ?_
  refine lv_if_ne (tgt := 33) hx hb dX8_bodyBehind_14 (by decide) (fun c2 => ?_) (fun c2 => ?_)
  · replace hM := if_f c2 hM
    cases hM
    exact rt_v hx hb hr hlk hP hD hS rfl dX8_bodyBehind_33
  · replace hM := if_t c2 hM
    refine lv_aload_n hx hb dX8_bodyBehind_17 rfl (lv_at hl 1 rfl) ?_
    refine lv_bipush (v := 11) hx hb dX8_bodyBehind_18 (by decide) ?_
    refine lv_iload_n hx hb dX8_bodyBehind_20 rfl (lv_at hl 0 rfl) ?_
    refine lv_iconst (v := 0) hx hb dX8_bodyBehind_21 (by decide) ?_
    obtain ⟨r3, hcr3, hM⟩ := ob_use hM
    refine cl_V (As := [.int 11, .int o_L.1, .int 0]) (rest := []) (wM0 ad o_X r1.1 r1.2 r3 o_U o_O o_E o_Q o_V o_I ++ wMC cI ad o_C ++ wMX cI ad o_X ++ wMN cI ad r1.2 ++ wMT cI ad r3 ++ wMU cI ad o_U) [] ⟨hx, hb, hml, hown, hts⟩ (c_Model_down l D cI sd ad o_C o_X r1.1 r1.2 o_U o_O o_E o_Q o_V o_I o_T 11 o_L.1 0 r3 hcr3) (cwV2 hts q1245 mvX8_down rfl rfl ⟨(Nat.le_of_ble_eq_true rfl), (Nat.le_of_ble_eq_true rfl)⟩) hK hE hA hP hD hS 0 (T := TX8) (N := 48) (ci := 8) rfl rfl [0, 8, 9, 10, 11, 12, 13, 14] rfl (by decide) rfl rfl rfl rfl rfl rfl hl.1 (Nat.le_of_ble_eq_true rfl) dX8_bodyBehind_22 ⟨Nat.zero_le _, Nat.zero_le _⟩ (fun H locs hP hD hS => ?_)
    refine lv_aload_n hx hb dX8_bodyBehind_25 rfl (lv_at hl 1 rfl) ?_
    refine lv_bipush (v := 101) hx hb dX8_bodyBehind_26 (by decide) ?_
    refine lv_bipush (v := 115) hx hb dX8_bodyBehind_28 (by decide) ?_
    obtain ⟨r4, hcr4, hM⟩ := ob_use hM
    refine cl_V (As := [.int 101, .int 115]) (rest := []) (wM0 ad o_X r1.1 r1.2 r3 r4 o_O o_E o_Q o_V o_I ++ wMC cI ad o_C ++ wMX cI ad o_X ++ wMN cI ad r1.2 ++ wMT cI ad r3 ++ wMU cI ad r4) [] ⟨hx, hb, hml, hown, hts⟩ (c_Model_push2 l D cI sd ad o_C o_X r1.1 r1.2 r3 o_O o_E o_Q o_V o_I o_U 101 115 r4 hcr4) (cwV2 hts q1257 mvX8_push2 rfl rfl ⟨(Nat.le_of_ble_eq_true rfl), (Nat.le_of_ble_eq_true rfl)⟩) hK hE hA hP hD hS 0 (T := TX8) (N := 48) (ci := 8) rfl rfl [0, 15] rfl (by decide) rfl rfl rfl rfl rfl rfl hl.1 (Nat.le_of_ble_eq_true rfl) dX8_bodyBehind_30 ⟨Nat.zero_le _, Nat.zero_le _⟩ (fun H locs hP hD hS => ?_)
    cases hM
    exact rt_v hx hb hr hlk hP hD hS rfl dX8_bodyBehind_33

set_option maxHeartbeats 4000000 in
set_option maxRecDepth 100000 in
theorem c_Model_declarations (l : Launch) (D : va_G) (cI : ClassId) (sd : Nat → Nat) (ad : Nat → Nat) (o_C : S_MC) (o_X : S_MX) (o_N : S_MN) (o_O : S_MO) (o_E : S_ME) (o_Q : S_MQ) (o_V : S_MV) (o_I : S_MI) (o_L : S_ML) (o_T : S_MT) (o_U : S_MU) (res : S_MT × S_MU) (hM : f_Model_declarations o_L o_T o_U = some res) : Ctr l D cI sd yX8_declarations (wsM yX8_declarations cX8_declarations 1 (Option.none : Option Jvm.ClassFile.FieldType)) { frames := 3, cells := 0, slots := 0, locals := 67 } [.ref (ad 100)] (wM0 ad o_X o_L o_N o_T o_U o_O o_E o_Q o_V o_I ++ wMT cI ad o_T ++ wMU cI ad o_U) (wM0 ad o_X o_L o_N res.1 res.2 o_O o_E o_Q o_V o_I ++ wMT cI ad res.1 ++ wMU cI ad res.2) none := by
  refine Ctr.of (cc := cX8_declarations) (maxL := 1) (own := RX8) (by decide +kernel) rfl rfl (Nat.le_of_ble_eq_true rfl) ?_
  intro p e s m below meth c A ls hx hb hr hml hown hts hlk hK hE hA hP hD hS hl
  have hl : lv_has ls 1 [(0, .ref (ad 100))] := hl
  unfold f_Model_declarations at hM
  refine lv_aload_n hx hb dX8_declarations_0 rfl (lv_at hl 0 rfl) ?_
  refine va_get (D := D) (ci := 8) (v := .int o_L.2.1) (C := RX8) (T := TX8) (N := 48) hx hb hts layX8 hown hK hP 0 rfl rfl 7 (by decide) (hts _ (inA q985)) (fun _ h9 => h9) rfl dX8_declarations_1 ?_
  refine lv_bipush (v := 80) hx hb dX8_declarations_4 (by decide) ?_
  refine lv_icmp_ne (tgt := 43) hx hb dX8_declarations_6 (by decide) (fun c1 => ?_) (fun c1 => ?_)
  · replace hM := if_f c1 hM
    cases hM
    exact rt_v hx hb hr hlk hP hD hS rfl dX8_declarations_43
  · replace hM := if_t c1 hM
    refine lv_aload_n hx hb dX8_declarations_9 rfl (lv_at hl 0 rfl) ?_
    refine lv_iconst (v := 5) hx hb dX8_declarations_10 (by decide) ?_
    refine lv_aload_n hx hb dX8_declarations_11 rfl (lv_at hl 0 rfl) ?_
    refine va_get (D := D) (ci := 8) (v := .int o_L.1) (C := RX8) (T := TX8) (N := 48) hx hb hts layX8 hown hK hP 0 rfl rfl 6 (by decide) (hts _ (inA q984)) (fun _ h9 => h9) rfl dX8_declarations_12 ?_
    refine lv_iconst (v := 0) hx hb dX8_declarations_15 (by decide) ?_
    obtain ⟨r2, hcr2, hM⟩ := ob_use hM
    refine cl_V (As := [.int 5, .int o_L.1, .int 0]) (rest := []) (wM0 ad o_X o_L o_N r2 o_U o_O o_E o_Q o_V o_I ++ wMT cI ad r2 ++ wMU cI ad o_U) [] ⟨hx, hb, hml, hown, hts⟩ (c_Model_down l D cI sd ad o_C o_X o_L o_N o_U o_O o_E o_Q o_V o_I o_T 5 o_L.1 0 r2 hcr2) (cwV2 hts q1245 mvX8_down rfl rfl ⟨(Nat.le_of_ble_eq_true rfl), (Nat.le_of_ble_eq_true rfl)⟩) hK hE hA hP hD hS 0 (T := TX8) (N := 48) (ci := 8) rfl rfl [0, 1, 2, 3, 4, 5, 6, 7] rfl (by decide) rfl rfl rfl rfl rfl rfl hl.1 (Nat.le_of_ble_eq_true rfl) dX8_declarations_16 ⟨Nat.zero_le _, Nat.zero_le _⟩ (fun H locs hP hD hS => ?_)
    refine lv_aload_n hx hb dX8_declarations_19 rfl (lv_at hl 0 rfl) ?_
    refine lv_bipush (v := 106) hx hb dX8_declarations_20 (by decide) ?_
    refine lv_bipush (v := 101) hx hb dX8_declarations_22 (by decide) ?_
    refine lv_bipush (v := 60) hx hb dX8_declarations_24 (by decide) ?_
    refine lv_bipush (v := 110) hx hb dX8_declarations_26 (by decide) ?_
    obtain ⟨r3, hcr3, hM⟩ := ob_use hM
    refine cl_V (As := [.int 106, .int 101, .int 60, .int 110]) (rest := []) (wM0 ad o_X o_L o_N r2 r3 o_O o_E o_Q o_V o_I ++ wMT cI ad r2 ++ wMU cI ad r3) [] ⟨hx, hb, hml, hown, hts⟩ (c_Model_push4 l D cI sd ad o_C o_X o_L o_N r2 o_O o_E o_Q o_V o_I o_U 106 101 60 110 r3 hcr3) (cwV2 hts q1253 mvX8_push4 rfl rfl ⟨(Nat.le_of_ble_eq_true rfl), (Nat.le_of_ble_eq_true rfl)⟩) hK hE hA hP hD hS 0 (T := TX8) (N := 48) (ci := 8) rfl rfl [0, 8] rfl (by decide) rfl rfl rfl rfl rfl rfl hl.1 (Nat.le_of_ble_eq_true rfl) dX8_declarations_28 ⟨Nat.zero_le _, Nat.zero_le _⟩ (fun H locs hP hD hS => ?_)
    refine lv_aload_n hx hb dX8_declarations_31 rfl (lv_at hl 0 rfl) ?_
    refine lv_bipush (v := 109) hx hb dX8_declarations_32 (by decide) ?_
    refine lv_bipush (v := 61) hx hb dX8_declarations_34 (by decide) ?_
    refine lv_bipush (v := 108) hx hb dX8_declarations_36 (by decide) ?_
    refine lv_bipush (v := 107) hx hb dX8_declarations_38 (by decide) ?_
    obtain ⟨r4, hcr4, hM⟩ := ob_use hM
    refine cl_V (As := [.int 109, .int 61, .int 108, .int 107]) (rest := []) (wM0 ad o_X o_L o_N r2 r4 o_O o_E o_Q o_V o_I ++ wMT cI ad r2 ++ wMU cI ad r4) [] ⟨hx, hb, hml, hown, hts⟩ (c_Model_push4 l D cI sd ad o_C o_X o_L o_N r2 o_O o_E o_Q o_V o_I r3 109 61 108 107 r4 hcr4) (cwV2 hts q1253 mvX8_push4 rfl rfl ⟨(Nat.le_of_ble_eq_true rfl), (Nat.le_of_ble_eq_true rfl)⟩) hK hE hA hP hD hS 0 (T := TX8) (N := 48) (ci := 8) rfl rfl [0, 8] rfl (by decide) rfl rfl rfl rfl rfl rfl hl.1 (Nat.le_of_ble_eq_true rfl) dX8_declarations_40 ⟨Nat.zero_le _, Nat.zero_le _⟩ (fun H locs hP hD hS => ?_)
    cases hM
    exact rt_v hx hb hr hlk hP hD hS rfl dX8_declarations_43

set_option maxHeartbeats 4000000 in
set_option maxRecDepth 100000 in
theorem c_Model_aName (l : Launch) (D : va_G) (cI : ClassId) (sd : Nat → Nat) (ad : Nat → Nat) (o_U : S_MU) (o_O : S_MO) (o_E : S_ME) (o_Q : S_MQ) (o_V : S_MV) (o_I : S_MI) (o_C : S_MC) (o_X : S_MX) (o_L : S_ML) (o_N : S_MN) (o_T : S_MT) (res : S_ML × S_MN × S_MT) (hM : f_Model_aName o_C o_X o_L o_N o_T = some res) : Ctr l D cI sd yX8_aName (wsM yX8_aName cX8_aName 1 (Option.none : Option Jvm.ClassFile.FieldType)) { frames := 6, cells := 0, slots := 0, locals := 133 } [.ref (ad 100)] (wM0 ad o_X o_L o_N o_T o_U o_O o_E o_Q o_V o_I ++ wMC cI ad o_C ++ wMX cI ad o_X ++ wMN cI ad o_N ++ wMT cI ad o_T) (wM0 ad o_X res.1 res.2.1 res.2.2 o_U o_O o_E o_Q o_V o_I ++ wMC cI ad o_C ++ wMX cI ad o_X ++ wMN cI ad res.2.1 ++ wMT cI ad res.2.2) none := by
  refine Ctr.of (cc := cX8_aName) (maxL := 1) (own := RX8) (by decide +kernel) rfl rfl (Nat.le_of_ble_eq_true rfl) ?_
  intro p e s m below meth c A ls hx hb hr hml hown hts hlk hK hE hA hP hD hS hl
  have hl : lv_has ls 1 [(0, .ref (ad 100))] := hl
  unfold f_Model_aName at hM
  refine lv_aload_n hx hb dX8_aName_0 rfl (lv_at hl 0 rfl) ?_
  refine lv_bipush (v := 6) hx hb dX8_aName_1 (by decide) ?_
  refine lv_aload_n hx hb dX8_aName_3 rfl (lv_at hl 0 rfl) ?_
  refine va_get (D := D) (ci := 8) (v := .int o_L.1) (C := RX8) (T := TX8) (N := 48) hx hb hts layX8 hown hK hP 0 rfl rfl 6 (by decide) (hts _ (inA q984)) (fun _ h9 => h9) rfl dX8_aName_4 ?_
  refine lv_aload_n hx hb dX8_aName_7 rfl (lv_at hl 0 rfl) ?_
  refine va_get (D := D) (ci := 8) (v := .int o_L.2.2.1) (C := RX8) (T := TX8) (N := 48) hx hb hts layX8 hown hK hP 0 rfl rfl 8 (by decide) (hts _ (inA q986)) (fun _ h9 => h9) rfl dX8_aName_8 ?_
  obtain ⟨r1, hcr1, hM⟩ := ob_use hM
  refine cl_V (As := [.int 6, .int o_L.1, .int o_L.2.2.1]) (rest := []) (wM0 ad o_X o_L o_N r1 o_U o_O o_E o_Q o_V o_I ++ wMC cI ad o_C ++ wMX cI ad o_X ++ wMN cI ad o_N ++ wMT cI ad r1) [] ⟨hx, hb, hml, hown, hts⟩ (c_Model_leaf l D cI sd ad o_C o_X o_L o_N o_U o_O o_E o_Q o_V o_I o_T 6 o_L.1 o_L.2.2.1 r1 hcr1) (cwV2 hts q1277 mvX8_leaf rfl rfl ⟨(Nat.le_of_ble_eq_true rfl), (Nat.le_of_ble_eq_true rfl)⟩) hK hE hA hP hD hS 0 (T := TX8) (N := 48) (ci := 8) rfl rfl [0, 8, 9, 10, 11, 12, 13, 14] rfl (by decide) rfl rfl rfl rfl rfl rfl hl.1 (Nat.le_of_ble_eq_true rfl) dX8_aName_11 ⟨Nat.zero_le _, Nat.zero_le _⟩ (fun H locs hP hD hS => ?_)
  refine lv_aload_n hx hb dX8_aName_14 rfl (lv_at hl 0 rfl) ?_
  refine lv_bipush (v := 80) hx hb dX8_aName_15 (by decide) ?_
  obtain ⟨r2, hcr2, hM⟩ := ob_use hM
  refine cl_V (As := [.int 80]) (rest := []) (wM0 ad o_X r2.1 r2.2 r1 o_U o_O o_E o_Q o_V o_I ++ wMC cI ad o_C ++ wMX cI ad o_X ++ wMN cI ad r2.2 ++ wMT cI ad r1) [] ⟨hx, hb, hml, hown, hts⟩ (c_Model_pass l D cI sd ad r1 o_U o_O o_E o_Q o_V o_I o_C o_X o_L o_N 80 r2 hcr2) (cwV2 hts q1229 mvX8_pass rfl rfl ⟨(Nat.le_of_ble_eq_true rfl), (Nat.le_of_ble_eq_true rfl)⟩) hK hE hA hP hD hS 0 (T := TX8) (N := 48) (ci := 8) rfl rfl [0, 1, 2, 3, 4, 5, 6, 7] rfl (by decide) rfl rfl rfl rfl rfl rfl hl.1 (Nat.le_of_ble_eq_true rfl) dX8_aName_17 ⟨Nat.zero_le _, Nat.zero_le _⟩ (fun H locs hP hD hS => ?_)
  cases hM
  exact rt_v hx hb hr hlk hP hD hS rfl dX8_aName_20

set_option maxHeartbeats 4000000 in
set_option maxRecDepth 100000 in
theorem c_Model_simple (l : Launch) (D : va_G) (cI : ClassId) (sd : Nat → Nat) (ad : Nat → Nat) (o_U : S_MU) (o_O : S_MO) (o_E : S_ME) (o_Q : S_MQ) (o_V : S_MV) (o_I : S_MI) (o_C : S_MC) (o_X : S_MX) (o_L : S_ML) (o_N : S_MN) (o_T : S_MT) (res : S_ML × S_MN × S_MT) (hM : f_Model_simple o_C o_X o_L o_N o_T = some res) : Ctr l D cI sd yX8_simple (wsM yX8_simple cX8_simple 1 (Option.none : Option Jvm.ClassFile.FieldType)) { frames := 5, cells := 0, slots := 0, locals := 112 } [.ref (ad 100)] (wM0 ad o_X o_L o_N o_T o_U o_O o_E o_Q o_V o_I ++ wMC cI ad o_C ++ wMX cI ad o_X ++ wMN cI ad o_N ++ wMT cI ad o_T) (wM0 ad o_X res.1 res.2.1 res.2.2 o_U o_O o_E o_Q o_V o_I ++ wMC cI ad o_C ++ wMX cI ad o_X ++ wMN cI ad res.2.1 ++ wMT cI ad res.2.2) none := by
  refine Ctr.of (cc := cX8_simple) (maxL := 1) (own := RX8) (by decide +kernel) rfl rfl (Nat.le_of_ble_eq_true rfl) ?_
  intro p e s m below meth c A ls hx hb hr hml hown hts hlk hK hE hA hP hD hS hl
  have hl : lv_has ls 1 [(0, .ref (ad 100))] := hl
  unfold f_Model_simple at hM
  refine lv_aload_n hx hb dX8_simple_0 rfl (lv_at hl 0 rfl) ?_
  refine va_get (D := D) (ci := 8) (v := .int o_L.2.1) (C := RX8) (T := TX8) (N := 48) hx hb hts layX8 hown hK hP 0 rfl rfl 7 (by decide) (hts _ (inA q985)) (fun _ h9 => h9) rfl dX8_simple_1 ?_
  refine lv_bipush (v := 11) hx hb dX8_simple_4 (by decide) ?_
  refine lv_icmp_lt (tgt := 42) hx hb dX8_simple_6 (by decide) (fun c1 => ?_) (fun c1 => ?_)
  · replace hM := if_t c1 hM
    refine lv_aload_n hx hb dX8_simple_42 rfl (lv_at hl 0 rfl) ?_
    obtain ⟨r2, hcr2, hM⟩ := ob_use hM
    refine cl_V (As := []) (rest := []) (wM0 ad o_X r2 o_N o_T o_U o_O o_E o_Q o_V o_I ++ wMC cI ad o_C ++ wMX cI ad o_X ++ wMN cI ad o_N ++ wMT cI ad o_T) [] ⟨hx, hb, hml, hown, hts⟩ (c_Model_wrong l D cI sd ad o_C o_X o_N o_T o_U o_O o_E o_Q o_V o_I o_L r2 hcr2) (cwV2 hts q1233 mvX8_wrong rfl rfl ⟨(Nat.le_of_ble_eq_true rfl), (Nat.le_of_ble_eq_true rfl)⟩) hK hE hA hP hD hS 0 (T := TX8) (N := 48) (ci := 8) rfl rfl [0] rfl (by decide) rfl rfl rfl rfl rfl rfl hl.1 (Nat.le_of_ble_eq_true rfl) dX8_simple_43 ⟨Nat.zero_le _, Nat.zero_le _⟩ (fun H locs hP hD hS => ?_)
    cases hM
    exact rt_v hx hb hr hlk hP hD hS rfl dX8_simple_46
  · replace hM := if_f c1 hM
    refine lv_aload_n hx hb dX8_simple_9 rfl (lv_at hl 0 rfl) ?_
    refine va_get (D := D) (ci := 8) (v := .int o_L.2.1) (C := RX8) (T := TX8) (N := 48) hx hb hts layX8 hown hK hP 0 rfl rfl 7 (by decide) (hts _ (inA q985)) (fun _ h9 => h9) rfl dX8_simple_10 ?_
    refine lv_bipush (v := 13) hx hb dX8_simple_13 (by decide) ?_
    refine lv_icmp_gt (tgt := 42) hx hb dX8_simple_15 (by decide) (fun c3 => ?_) (fun c3 => ?_)
    · replace hM := if_t c3 hM
      refine lv_aload_n hx hb dX8_simple_42 rfl (lv_at hl 0 rfl) ?_
      obtain ⟨r4, hcr4, hM⟩ := ob_use hM
      refine cl_V (As := []) (rest := []) (wM0 ad o_X r4 o_N o_T o_U o_O o_E o_Q o_V o_I ++ wMC cI ad o_C ++ wMX cI ad o_X ++ wMN cI ad o_N ++ wMT cI ad o_T) [] ⟨hx, hb, hml, hown, hts⟩ (c_Model_wrong l D cI sd ad o_C o_X o_N o_T o_U o_O o_E o_Q o_V o_I o_L r4 hcr4) (cwV2 hts q1233 mvX8_wrong rfl rfl ⟨(Nat.le_of_ble_eq_true rfl), (Nat.le_of_ble_eq_true rfl)⟩) hK hE hA hP hD hS 0 (T := TX8) (N := 48) (ci := 8) rfl rfl [0] rfl (by decide) rfl rfl rfl rfl rfl rfl hl.1 (Nat.le_of_ble_eq_true rfl) dX8_simple_43 ⟨Nat.zero_le _, Nat.zero_le _⟩ (fun H locs hP hD hS => ?_)
      cases hM
      exact rt_v hx hb hr hlk hP hD hS rfl dX8_simple_46
    · replace hM := if_f c3 hM
      refine lv_aload_n hx hb dX8_simple_18 rfl (lv_at hl 0 rfl) ?_
      refine lv_bipush (v := 8) hx hb dX8_simple_19 (by decide) ?_
      refine lv_aload_n hx hb dX8_simple_21 rfl (lv_at hl 0 rfl) ?_
      refine va_get (D := D) (ci := 8) (v := .int o_L.1) (C := RX8) (T := TX8) (N := 48) hx hb hts layX8 hown hK hP 0 rfl rfl 6 (by decide) (hts _ (inA q984)) (fun _ h9 => h9) rfl dX8_simple_22 ?_
      refine lv_aload_n hx hb dX8_simple_25 rfl (lv_at hl 0 rfl) ?_
      refine va_get (D := D) (ci := 8) (v := .int o_L.2.1) (C := RX8) (T := TX8) (N := 48) hx hb hts layX8 hown hK hP 0 rfl rfl 7 (by decide) (hts _ (inA q985)) (fun _ h9 => h9) rfl dX8_simple_26 ?_
      refine lv_bipush (v := 11) hx hb dX8_simple_29 (by decide) ?_
      refine lv_isub hx hb dX8_simple_31 ?_
      obtain ⟨r5, hcr5, hM⟩ := ob_use hM
      refine cl_V (As := [.int 8, .int o_L.1, .int (o_L.2.1 - 11)]) (rest := []) (wM0 ad o_X o_L o_N r5 o_U o_O o_E o_Q o_V o_I ++ wMC cI ad o_C ++ wMX cI ad o_X ++ wMN cI ad o_N ++ wMT cI ad r5) [] ⟨hx, hb, hml, hown, hts⟩ (c_Model_leaf l D cI sd ad o_C o_X o_L o_N o_U o_O o_E o_Q o_V o_I o_T 8 o_L.1 (o_L.2.1 - 11) r5 hcr5) (cwV2 hts q1277 mvX8_leaf rfl rfl ⟨(Nat.le_of_ble_eq_true rfl), (Nat.le_of_ble_eq_true rfl)⟩) hK hE hA hP hD hS 0 (T := TX8) (N := 48) (ci := 8) rfl rfl [0, 8, 9, 10, 11, 12, 13, 14] rfl (by decide) rfl rfl rfl rfl rfl rfl hl.1 (Nat.le_of_ble_eq_true rfl) dX8_simple_32 ⟨Nat.zero_le _, Nat.zero_le _⟩ (fun H locs hP hD hS => ?_)
      refine lv_aload_n hx hb dX8_simple_35 rfl (lv_at hl 0 rfl) ?_
      obtain ⟨r6, hcr6, hM⟩ := ob_use hM
      refine cl_V (As := []) (rest := []) (wM0 ad o_X r6.1 r6.2 r5 o_U o_O o_E o_Q o_V o_I ++ wMC cI ad o_C ++ wMX cI ad o_X ++ wMN cI ad r6.2 ++ wMT cI ad r5) [] ⟨hx, hb, hml, hown, hts⟩ (c_Model_step l D cI sd ad r5 o_U o_O o_E o_Q o_V o_I o_C o_X o_L o_N r6 hcr6) (cwV2 hts q1151 mvX8_step rfl rfl ⟨(Nat.le_of_ble_eq_true rfl), (Nat.le_of_ble_eq_true rfl)⟩) hK hE hA hP hD hS 0 (T := TX8) (N := 48) (ci := 8) rfl rfl [0, 1, 2, 3, 4, 5, 6, 7] rfl (by decide) rfl rfl rfl rfl rfl rfl hl.1 (Nat.le_of_ble_eq_true rfl) dX8_simple_36 ⟨Nat.zero_le _, Nat.zero_le _⟩ (fun H locs hP hD hS => ?_)
      refine lv_goto (tgt := 46) hx hb dX8_simple_39 (by decide) ?_
      cases hM
      exact rt_v hx hb hr hlk hP hD hS rfl dX8_simple_46

set_option maxHeartbeats 4000000 in
set_option maxRecDepth 100000 in
theorem c_Model_type (l : Launch) (D : va_G) (cI : ClassId) (sd : Nat → Nat) (ad : Nat → Nat) (o_O : S_MO) (o_E : S_ME) (o_Q : S_MQ) (o_V : S_MV) (o_I : S_MI) (o_C : S_MC) (o_X : S_MX) (o_L : S_ML) (o_N : S_MN) (o_T : S_MT) (o_U : S_MU) (res : S_ML × S_MN × S_MT × S_MU) (hM : f_Model_type o_C o_X o_L o_N o_T o_U = some res) : Ctr l D cI sd yX8_type (wsM yX8_type cX8_type 1 (Option.none : Option Jvm.ClassFile.FieldType)) { frames := 6, cells := 0, slots := 0, locals := 132 } [.ref (ad 100)] (wM0 ad o_X o_L o_N o_T o_U o_O o_E o_Q o_V o_I ++ wMC cI ad o_C ++ wMX cI ad o_X ++ wMN cI ad o_N ++ wMT cI ad o_T ++ wMU cI ad o_U) (wM0 ad o_X res.1 res.2.1 res.2.2.1 res.2.2.2 o_O o_E o_Q o_V o_I ++ wMC cI ad o_C ++ wMX cI ad o_X ++ wMN cI ad res.2.1 ++ wMT cI ad res.2.2.1 ++ wMU cI ad res.2.2.2) none := by
  refine Ctr.of (cc := cX8_type) (maxL := 1) (own := RX8) (by decide +kernel) rfl rfl (Nat.le_of_ble_eq_true rfl) ?_
  intro p e s m below meth c A ls hx hb hr hml hown hts hlk hK hE hA hP hD hS hl
  have hl : lv_has ls 1 [(0, .ref (ad 100))] := hl
  unfold f_Model_type at hM
  refine lv_aload_n hx hb dX8_type_0 rfl (lv_at hl 0 rfl) ?_
  refine va_get (D := D) (ci := 8) (v := .int o_L.2.1) (C := RX8) (T := TX8) (N := 48) hx hb hts layX8 hown hK hP 0 rfl rfl 7 (by decide) (hts _ (inA q985)) (fun _ h9 => h9) rfl dX8_type_1 ?_
  refine lv_bipush (v := 14) hx hb dX8_type_4 (by decide) ?_
  refine lv_icmp_ne (tgt := 51) hx hb dX8_type_6 (by decide) (fun c1 => ?_) (fun c1 => ?_)
  · replace hM := if_f c1 hM
    refine lv_aload_n hx hb dX8_type_51 rfl (lv_at hl 0 rfl) ?_
    refine va_get (D := D) (ci := 8) (v := .int o_L.2.1) (C := RX8) (T := TX8) (N := 48) hx hb hts layX8 hown hK hP 0 rfl rfl 7 (by decide) (hts _ (inA q985)) (fun _ h9 => h9) rfl dX8_type_52 ?_
    refine lv_bipush (v := 80) hx hb dX8_type_55 (by decide) ?_
    refine lv_icmp_ne (tgt := 81) hx hb dX8_type_57 (by decide) (fun c2 => ?_) (fun c2 => ?_)
    · replace hM := if_f c2 hM
      refine lv_aload_n hx hb dX8_type_81 rfl (lv_at hl 0 rfl) ?_
      obtain ⟨r3, hcr3, hM⟩ := ob_use hM
      refine cl_V (As := []) (rest := []) (wM0 ad o_X r3.1 r3.2.1 r3.2.2 o_U o_O o_E o_Q o_V o_I ++ wMC cI ad o_C ++ wMX cI ad o_X ++ wMN cI ad r3.2.1 ++ wMT cI ad r3.2.2 ++ wMU cI ad o_U) [] ⟨hx, hb, hml, hown, hts⟩ (c_Model_simple l D cI sd ad o_U o_O o_E o_Q o_V o_I o_C o_X o_L o_N o_T r3 hcr3) (cwV2 hts q1273 mvX8_simple rfl rfl ⟨(Nat.le_of_ble_eq_true rfl), (Nat.le_of_ble_eq_true rfl)⟩) hK hE hA hP hD hS 0 (T := TX8) (N := 48) (ci := 8) rfl rfl [0, 1, 2, 3, 4, 5, 6, 7, 8, 9, 10, 11, 12, 13, 14] rfl (by decide) rfl rfl rfl rfl rfl rfl hl.1 (Nat.le_of_ble_eq_true rfl) dX8_type_82 ⟨Nat.zero_le _, Nat.zero_le _⟩ (fun H locs hP hD hS => ?_)
      cases hM
      exact rt_v hx hb hr hlk hP hD hS rfl dX8_type_85
    · replace hM := if_t c2 hM
      refine lv_aload_n hx hb dX8_type_60 rfl (lv_at hl 0 rfl) ?_
      refine lv_bipush (v := 10) hx hb dX8_type_61 (by decide) ?_
      refine lv_aload_n hx hb dX8_type_63 rfl (lv_at hl 0 rfl) ?_
      refine va_get (D := D) (ci := 8) (v := .int o_L.1) (C := RX8) (T := TX8) (N := 48) hx hb hts layX8 hown hK hP 0 rfl rfl 6 (by decide) (hts _ (inA q984)) (fun _ h9 => h9) rfl dX8_type_64 ?_
      refine lv_aload_n hx hb dX8_type_67 rfl (lv_at hl 0 rfl) ?_
      refine va_get (D := D) (ci := 8) (v := .int o_L.2.2.1) (C := RX8) (T := TX8) (N := 48) hx hb hts layX8 hown hK hP 0 rfl rfl 8 (by decide) (hts _ (inA q986)) (fun _ h9 => h9) rfl dX8_type_68 ?_
      obtain ⟨r4, hcr4, hM⟩ := ob_use hM
      refine cl_V (As := [.int 10, .int o_L.1, .int o_L.2.2.1]) (rest := []) (wM0 ad o_X o_L o_N r4 o_U o_O o_E o_Q o_V o_I ++ wMC cI ad o_C ++ wMX cI ad o_X ++ wMN cI ad o_N ++ wMT cI ad r4 ++ wMU cI ad o_U) [] ⟨hx, hb, hml, hown, hts⟩ (c_Model_leaf l D cI sd ad o_C o_X o_L o_N o_U o_O o_E o_Q o_V o_I o_T 10 o_L.1 o_L.2.2.1 r4 hcr4) (cwV2 hts q1277 mvX8_leaf rfl rfl ⟨(Nat.le_of_ble_eq_true rfl), (Nat.le_of_ble_eq_true rfl)⟩) hK hE hA hP hD hS 0 (T := TX8) (N := 48) (ci := 8) rfl rfl [0, 8, 9, 10, 11, 12, 13, 14] rfl (by decide) rfl rfl rfl rfl rfl rfl hl.1 (Nat.le_of_ble_eq_true rfl) dX8_type_71 ⟨Nat.zero_le _, Nat.zero_le _⟩ (fun H locs hP hD hS => ?_)
      refine lv_aload_n hx hb dX8_type_74 rfl (lv_at hl 0 rfl) ?_
      obtain ⟨r5, hcr5, hM⟩ := ob_use hM
      refine cl_V (As := []) (rest := []) (wM0 ad o_X r5.1 r5.2 r4 o_U o_O o_E o_Q o_V o_I ++ wMC cI ad o_C ++ wMX cI ad o_X ++ wMN cI ad r5.2 ++ wMT cI ad r4 ++ wMU cI ad o_U) [] ⟨hx, hb, hml, hown, hts⟩ (c_Model_step l D cI sd ad r4 o_U o_O o_E o_Q o_V o_I o_C o_X o_L o_N r5 hcr5) (cwV2 hts q1151 mvX8_step rfl rfl ⟨(Nat.le_of_ble_eq_true rfl), (Nat.le_of_ble_eq_true rfl)⟩) hK hE hA hP hD hS 0 (T := TX8) (N := 48) (ci := 8) rfl rfl [0, 1, 2, 3, 4, 5, 6, 7] rfl (by decide) rfl rfl rfl rfl rfl rfl hl.1 (Nat.le_of_ble_eq_true rfl) dX8_type_75 ⟨Nat.zero_le _, Nat.zero_le _⟩ (fun H locs hP hD hS => ?_)
      refine lv_goto (tgt := 85) hx hb dX8_type_78 (by decide) ?_
      cases hM
      exact rt_v hx hb hr hlk hP hD hS rfl dX8_type_85
  · replace hM := if_t c1 hM
    refine lv_aload_n hx hb dX8_type_9 rfl (lv_at hl 0 rfl) ?_
    refine lv_bipush (v := 9) hx hb dX8_type_10 (by decide) ?_
    refine lv_aload_n hx hb dX8_type_12 rfl (lv_at hl 0 rfl) ?_
    refine va_get (D := D) (ci := 8) (v := .int o_L.1) (C := RX8) (T := TX8) (N := 48) hx hb hts layX8 hown hK hP 0 rfl rfl 6 (by decide) (hts _ (inA q984)) (fun _ h9 => h9) rfl dX8_type_13 ?_
    refine lv_iconst (v := 0) hx hb dX8_type_16 (by decide) ?_
    obtain ⟨r6, hcr6, hM⟩ := ob_use hM
    refine cl_V (As := [.int 9, .int o_L.1, .int 0]) (rest := []) (wM0 ad o_X o_L o_N r6 o_U o_O o_E o_Q o_V o_I ++ wMC cI ad o_C ++ wMX cI ad o_X ++ wMN cI ad o_N ++ wMT cI ad r6 ++ wMU cI ad o_U) [] ⟨hx, hb, hml, hown, hts⟩ (c_Model_down l D cI sd ad o_C o_X o_L o_N o_U o_O o_E o_Q o_V o_I o_T 9 o_L.1 0 r6 hcr6) (cwV2 hts q1245 mvX8_down rfl rfl ⟨(Nat.le_of_ble_eq_true rfl), (Nat.le_of_ble_eq_true rfl)⟩) hK hE hA hP hD hS 0 (T := TX8) (N := 48) (ci := 8) rfl rfl [0, 8, 9, 10, 11, 12, 13, 14] rfl (by decide) rfl rfl rfl rfl rfl rfl hl.1 (Nat.le_of_ble_eq_true rfl) dX8_type_17 ⟨Nat.zero_le _, Nat.zero_le _⟩ (fun H locs hP hD hS => ?_)
    refine lv_aload_n hx hb dX8_type_20 rfl (lv_at hl 0 rfl) ?_
    obtain ⟨r7, hcr7, hM⟩ := ob_use hM
    refine cl_V (As := []) (rest := []) (wM0 ad o_X r7.1 r7.2 r6 o_U o_O o_E o_Q o_V o_I ++ wMC cI ad o_C ++ wMX cI ad o_X ++ wMN cI ad r7.2 ++ wMT cI ad r6 ++ wMU cI ad o_U) [] ⟨hx, hb, hml, hown, hts⟩ (c_Model_step l D cI sd ad r6 o_U o_O o_E o_Q o_V o_I o_C o_X o_L o_N r7 hcr7) (cwV2 hts q1151 mvX8_step rfl rfl ⟨(Nat.le_of_ble_eq_true rfl), (Nat.le_of_ble_eq_true rfl)⟩) hK hE hA hP hD hS 0 (T := TX8) (N := 48) (ci := 8) rfl rfl [0, 1, 2, 3, 4, 5, 6, 7] rfl (by decide) rfl rfl rfl rfl rfl rfl hl.1 (Nat.le_of_ble_eq_true rfl) dX8_type_21 ⟨Nat.zero_le _, Nat.zero_le _⟩ (fun H locs hP hD hS => ?_)
    refine lv_aload_n hx hb dX8_type_24 rfl (lv_at hl 0 rfl) ?_
    refine lv_bipush (v := 101) hx hb dX8_type_25 (by decide) ?_
    refine lv_bipush (v := 104) hx hb dX8_type_27 (by decide) ?_
    refine lv_bipush (v := 15) hx hb dX8_type_29 (by decide) ?_
    refine lv_bipush (v := 58) hx hb dX8_type_31 (by decide) ?_
    obtain ⟨r8, hcr8, hM⟩ := ob_use hM
    refine cl_V (As := [.int 101, .int 104, .int 15, .int 58]) (rest := []) (wM0 ad o_X r7.1 r7.2 r6 r8 o_O o_E o_Q o_V o_I ++ wMC cI ad o_C ++ wMX cI ad o_X ++ wMN cI ad r7.2 ++ wMT cI ad r6 ++ wMU cI ad r8) [] ⟨hx, hb, hml, hown, hts⟩ (c_Model_push4 l D cI sd ad o_C o_X r7.1 r7.2 r6 o_O o_E o_Q o_V o_I o_U 101 104 15 58 r8 hcr8) (cwV2 hts q1253 mvX8_push4 rfl rfl ⟨(Nat.le_of_ble_eq_true rfl), (Nat.le_of_ble_eq_true rfl)⟩) hK hE hA hP hD hS 0 (T := TX8) (N := 48) (ci := 8) rfl rfl [0, 15] rfl (by decide) rfl rfl rfl rfl rfl rfl hl.1 (Nat.le_of_ble_eq_true rfl) dX8_type_33 ⟨Nat.zero_le _, Nat.zero_le _⟩ (fun H locs hP hD hS => ?_)
    refine lv_aload_n hx hb dX8_type_36 rfl (lv_at hl 0 rfl) ?_
    refine lv_bipush (v := 113) hx hb dX8_type_37 (by decide) ?_
    refine lv_bipush (v := 51) hx hb dX8_type_39 (by decide) ?_
    refine lv_bipush (v := 113) hx hb dX8_type_41 (by decide) ?_
    refine lv_bipush (v := 57) hx hb dX8_type_43 (by decide) ?_
    obtain ⟨r9, hcr9, hM⟩ := ob_use hM
    refine cl_V (As := [.int 113, .int 51, .int 113, .int 57]) (rest := []) (wM0 ad o_X r7.1 r7.2 r6 r9 o_O o_E o_Q o_V o_I ++ wMC cI ad o_C ++ wMX cI ad o_X ++ wMN cI ad r7.2 ++ wMT cI ad r6 ++ wMU cI ad r9) [] ⟨hx, hb, hml, hown, hts⟩ (c_Model_push4 l D cI sd ad o_C o_X r7.1 r7.2 r6 o_O o_E o_Q o_V o_I r8 113 51 113 57 r9 hcr9) (cwV2 hts q1253 mvX8_push4 rfl rfl ⟨(Nat.le_of_ble_eq_true rfl), (Nat.le_of_ble_eq_true rfl)⟩) hK hE hA hP hD hS 0 (T := TX8) (N := 48) (ci := 8) rfl rfl [0, 15] rfl (by decide) rfl rfl rfl rfl rfl rfl hl.1 (Nat.le_of_ble_eq_true rfl) dX8_type_45 ⟨Nat.zero_le _, Nat.zero_le _⟩ (fun H locs hP hD hS => ?_)
    refine lv_goto (tgt := 85) hx hb dX8_type_48 (by decide) ?_
    cases hM
    exact rt_v hx hb hr hlk hP hD hS rfl dX8_type_85

set_option maxHeartbeats 4000000 in
set_option maxRecDepth 100000 in
theorem c_Model_constant (l : Launch) (D : va_G) (cI : ClassId) (sd : Nat → Nat) (ad : Nat → Nat) (o_E : S_ME) (o_Q : S_MQ) (o_V : S_MV) (o_I : S_MI) (o_C : S_MC) (o_X : S_MX) (o_L : S_ML) (o_N : S_MN) (o_T : S_MT) (o_U : S_MU) (o_O : S_MO) (res : S_ML × S_MN × S_MT × S_MU × S_MO) (hM : f_Model_constant o_C o_X o_L o_N o_T o_U o_O = some res) : Ctr l D cI sd yX8_constant (wsM yX8_constant cX8_constant 1 (Option.none : Option Jvm.ClassFile.FieldType)) { frames := 5, cells := 0, slots := 0, locals := 112 } [.ref (ad 100)] (wM0 ad o_X o_L o_N o_T o_U o_O o_E o_Q o_V o_I ++ wMC cI ad o_C ++ wMX cI ad o_X ++ wMN cI ad o_N ++ wMT cI ad o_T ++ wMU cI ad o_U) (wM0 ad o_X res.1 res.2.1 res.2.2.1 res.2.2.2.1 res.2.2.2.2 o_E o_Q o_V o_I ++ wMC cI ad o_C ++ wMX cI ad o_X ++ wMN cI ad res.2.1 ++ wMT cI ad res.2.2.1 ++ wMU cI ad res.2.2.2.1) none := by
  refine Ctr.of (cc := cX8_constant) (maxL := 1) (own := RX8) (by decide +kernel) rfl rfl (Nat.le_of_ble_eq_true rfl) ?_
  intro p e s m below meth c A ls hx hb hr hml hown hts hlk hK hE hA hP hD hS hl
  have hl : lv_has ls 1 [(0, .ref (ad 100))] := hl
  unfold f_Model_constant at hM
  refine lv_aload_n hx hb dX8_constant_0 rfl (lv_at hl 0 rfl) ?_
  refine va_get (D := D) (ci := 8) (v := .int o_L.2.1) (C := RX8) (T := TX8) (N := 48) hx hb hts layX8 hown hK hP 0 rfl rfl 7 (by decide) (hts _ (inA q985)) (fun _ h9 => h9) rfl dX8_constant_1 ?_
  refine lv_bipush (v := 64) hx hb dX8_constant_4 (by decide) ?_
  refine lv_icmp_ne (tgt := 30) hx hb dX8_constant_6 (by decide) (fun c1 => ?_) (fun c1 => ?_)
  · replace hM := if_f c1 hM
    refine lv_aload_n hx hb dX8_constant_30 rfl (lv_at hl 0 rfl) ?_
    refine va_get (D := D) (ci := 8) (v := .int o_L.2.1) (C := RX8) (T := TX8) (N := 48) hx hb hts layX8 hown hK hP 0 rfl rfl 7 (by decide) (hts _ (inA q985)) (fun _ h9 => h9) rfl dX8_constant_31 ?_
    refine lv_bipush (v := 81) hx hb dX8_constant_34 (by decide) ?_
    refine lv_icmp_ne (tgt := 60) hx hb dX8_constant_36 (by decide) (fun c2 => ?_) (fun c2 => ?_)
    · replace hM := if_f c2 hM
      refine lv_aload_n hx hb dX8_constant_60 rfl (lv_at hl 0 rfl) ?_
      refine va_get (D := D) (ci := 8) (v := .int o_L.2.1) (C := RX8) (T := TX8) (N := 48) hx hb hts layX8 hown hK hP 0 rfl rfl 7 (by decide) (hts _ (inA q985)) (fun _ h9 => h9) rfl dX8_constant_61 ?_
      refine lv_bipush (v := 35) hx hb dX8_constant_64 (by decide) ?_
      refine lv_icmp_eq (tgt := 78) hx hb dX8_constant_66 (by decide) (fun c3 => ?_) (fun c3 => ?_)
      · replace hM := if_t c3 hM
        refine lv_aload_n hx hb dX8_constant_78 rfl (lv_at hl 0 rfl) ?_
        refine lv_bipush (v := 31) hx hb dX8_constant_79 (by decide) ?_
        refine lv_aload_n hx hb dX8_constant_81 rfl (lv_at hl 0 rfl) ?_
        refine va_get (D := D) (ci := 8) (v := .int o_L.1) (C := RX8) (T := TX8) (N := 48) hx hb hts layX8 hown hK hP 0 rfl rfl 6 (by decide) (hts _ (inA q984)) (fun _ h9 => h9) rfl dX8_constant_82 ?_
        refine lv_aload_n hx hb dX8_constant_85 rfl (lv_at hl 0 rfl) ?_
        refine va_get (D := D) (ci := 8) (v := .int o_L.2.1) (C := RX8) (T := TX8) (N := 48) hx hb hts layX8 hown hK hP 0 rfl rfl 7 (by decide) (hts _ (inA q985)) (fun _ h9 => h9) rfl dX8_constant_86 ?_
        refine lv_bipush (v := 35) hx hb dX8_constant_89 (by decide) ?_
        refine lv_icmp_ne (tgt := 98) hx hb dX8_constant_91 (by decide) (fun c4 => ?_) (fun c4 => ?_)
        · replace hM := if_f c4 hM
          refine lv_iconst (v := 0) hx hb dX8_constant_98 (by decide) ?_
          obtain ⟨r5, hcr5, hM⟩ := ob_use hM
          refine cl_V (As := [.int 31, .int o_L.1, .int 0]) (rest := []) (wM0 ad o_X o_L o_N r5 o_U o_O o_E o_Q o_V o_I ++ wMC cI ad o_C ++ wMX cI ad o_X ++ wMN cI ad o_N ++ wMT cI ad r5 ++ wMU cI ad o_U) [] ⟨hx, hb, hml, hown, hts⟩ (c_Model_leaf l D cI sd ad o_C o_X o_L o_N o_U o_O o_E o_Q o_V o_I o_T 31 o_L.1 0 r5 hcr5) (cwV2 hts q1277 mvX8_leaf rfl rfl ⟨(Nat.le_of_ble_eq_true rfl), (Nat.le_of_ble_eq_true rfl)⟩) hK hE hA hP hD hS 0 (T := TX8) (N := 48) (ci := 8) rfl rfl [0, 8, 9, 10, 11, 12, 13, 14] rfl (by decide) rfl rfl rfl rfl rfl rfl hl.1 (Nat.le_of_ble_eq_true rfl) dX8_constant_99 ⟨Nat.zero_le _, Nat.zero_le _⟩ (fun H locs hP hD hS => ?_)
          refine lv_aload_n hx hb dX8_constant_102 rfl (lv_at hl 0 rfl) ?_
          obtain ⟨r6, hcr6, hM⟩ := ob_use hM
          refine cl_V (As := []) (rest := []) (wM0 ad o_X r6.1 r6.2 r5 o_U o_O o_E o_Q o_V o_I ++ wMC cI ad o_C ++ wMX cI ad o_X ++ wMN cI ad r6.2 ++ wMT cI ad r5 ++ wMU cI ad o_U) [] ⟨hx, hb, hml, hown, hts⟩ (c_Model_step l D cI sd ad r5 o_U o_O o_E o_Q o_V o_I o_C o_X o_L o_N r6 hcr6) (cwV2 hts q1151 mvX8_step rfl rfl ⟨(Nat.le_of_ble_eq_true rfl), (Nat.le_of_ble_eq_true rfl)⟩) hK hE hA hP hD hS 0 (T := TX8) (N := 48) (ci := 8) rfl rfl [0, 1, 2, 3, 4, 5, 6, 7] rfl (by decide) rfl rfl rfl rfl rfl rfl hl.1 (Nat.le_of_ble_eq_true rfl) dX8_constant_103 ⟨Nat.zero_le _, Nat.zero_le _⟩ (fun H locs hP hD hS => ?_)
          refine lv_goto (tgt := 113) hx hb dX8_constant_106 (by decide) ?_
          cases hM
          exact rt_v hx hb hr hlk hP hD hS rfl dX8_constant_113
        · replace hM := if_t c4 hM
          refine lv_iconst (v := 1) hx hb dX8_constant_94 (by decide) ?_
          refine lv_goto (tgt := 99) hx hb dX8_constant_95 (by decide) ?_
          obtain ⟨r7, hcr7, hM⟩ := ob_use hM
          refine cl_V (As := [.int 31, .int o_L.1, .int 1]) (rest := []) (wM0 ad o_X o_L o_N r7 o_U o_O o_E o_Q o_V o_I ++ wMC cI ad o_C ++ wMX cI ad o_X ++ wMN cI ad o_N ++ wMT cI ad r7 ++ wMU cI ad o_U) [] ⟨hx, hb, hml, hown, hts⟩ (c_Model_leaf l D cI sd ad o_C o_X o_L o_N o_U o_O o_E o_Q o_V o_I o_T 31 o_L.1 1 r7 hcr7) (cwV2 hts q1277 mvX8_leaf rfl rfl ⟨(Nat.le_of_ble_eq_true rfl), (Nat.le_of_ble_eq_true rfl)⟩) hK hE hA hP hD hS 0 (T := TX8) (N := 48) (ci := 8) rfl rfl [0, 8, 9, 10, 11, 12, 13, 14] rfl (by decide) rfl rfl rfl rfl rfl rfl hl.1 (Nat.le_of_ble_eq_true rfl) dX8_constant_99 ⟨Nat.zero_le _, Nat.zero_le _⟩ (fun H locs hP hD hS => ?_)
          refine lv_aload_n hx hb dX8_constant_102 rfl (lv_at hl 0 rfl) ?_
          obtain ⟨r8, hcr8, hM⟩ := ob_use hM
          refine cl_V (As := []) (rest := []) (wM0 ad o_X r8.1 r8.2 r7 o_U o_O o_E o_Q o_V o_I ++ wMC cI ad o_C ++ wMX cI ad o_X ++ wMN cI ad r8.2 ++ wMT cI ad r7 ++ wMU cI ad o_U) [] ⟨hx, hb, hml, hown, hts⟩ (c_Model_step l D cI sd ad r7 o_U o_O o_E o_Q o_V o_I o_C o_X o_L o_N r8 hcr8) (cwV2 hts q1151 mvX8_step rfl rfl ⟨(Nat.le_of_ble_eq_true rfl), (Nat.le_of_ble_eq_true rfl)⟩) hK hE hA hP hD hS 0 (T := TX8) (N := 48) (ci := 8) rfl rfl [0, 1, 2, 3, 4, 5, 6, 7] rfl (by decide) rfl rfl rfl rfl rfl rfl hl.1 (Nat.le_of_ble_eq_true rfl) dX8_constant_103 ⟨Nat.zero_le _, Nat.zero_le _⟩ (fun H locs hP hD hS => ?_)
          refine lv_goto (tgt := 113) hx hb dX8_constant_106 (by decide) ?_
          cases hM
          exact rt_v hx hb hr hlk hP hD hS rfl dX8_constant_113
      · replace hM := if_f c3 hM
        refine lv_aload_n hx hb dX8_constant_69 rfl (lv_at hl 0 rfl) ?_
        refine va_get (D := D) (ci := 8) (v := .int o_L.2.1) (C := RX8) (T := TX8) (N := 48) hx hb hts layX8 hown hK hP 0 rfl rfl 7 (by decide) (hts _ (inA q985)) (fun _ h9 => h9) rfl dX8_constant_70 ?_
        refine lv_bipush (v := 36) hx hb dX8_constant_73 (by decide) ?_
        refine lv_icmp_ne (tgt := 109) hx hb dX8_constant_75 (by decide) (fun c9 => ?_) (fun c9 => ?_)
        · replace hM := if_f c9 hM
          refine lv_aload_n hx hb dX8_constant_109 rfl (lv_at hl 0 rfl) ?_
          obtain ⟨r10, hcr10, hM⟩ := ob_use hM
          refine cl_V (As := []) (rest := []) (wM0 ad o_X r10 o_N o_T o_U o_O o_E o_Q o_V o_I ++ wMC cI ad o_C ++ wMX cI ad o_X ++ wMN cI ad o_N ++ wMT cI ad o_T ++ wMU cI ad o_U) [] ⟨hx, hb, hml, hown, hts⟩ (c_Model_wrong l D cI sd ad o_C o_X o_N o_T o_U o_O o_E o_Q o_V o_I o_L r10 hcr10) (cwV2 hts q1233 mvX8_wrong rfl rfl ⟨(Nat.le_of_ble_eq_true rfl), (Nat.le_of_ble_eq_true rfl)⟩) hK hE hA hP hD hS 0 (T := TX8) (N := 48) (ci := 8) rfl rfl [0] rfl (by decide) rfl rfl rfl rfl rfl rfl hl.1 (Nat.le_of_ble_eq_true rfl) dX8_constant_110 ⟨Nat.zero_le _, Nat.zero_le _⟩ (fun H locs hP hD hS => ?_)
          cases hM
          exact rt_v hx hb hr hlk hP hD hS rfl dX8_constant_113
        · replace hM := if_t c9 hM
          refine lv_aload_n hx hb dX8_constant_78 rfl (lv_at hl 0 rfl) ?_
          refine lv_bipush (v := 31) hx hb dX8_constant_79 (by decide) ?_
          refine lv_aload_n hx hb dX8_constant_81 rfl (lv_at hl 0 rfl) ?_
          refine va_get (D := D) (ci := 8) (v := .int o_L.1) (C := RX8) (T := TX8) (N := 48) hx hb hts layX8 hown hK hP 0 rfl rfl 6 (by decide) (hts _ (inA q984)) (fun _ h9 => h9) rfl dX8_constant_82 ?_
          refine lv_aload_n hx hb dX8_constant_85 rfl (lv_at hl 0 rfl) ?_
          refine va_get (D := D) (ci := 8) (v := .int o_L.2.1) (C := RX8) (T := TX8) (N := 48) hx hb hts layX8 hown hK hP 0 rfl rfl 7 (by decide) (hts _ (inA q985)) (fun _ h9 => h9) rfl dX8_constant_86 ?_
          refine lv_bipush (v := 35) hx hb dX8_constant_89 (by decide) ?_
          refine lv_icmp_ne (tgt := 98) hx hb dX8_constant_91 (by decide) (fun c11 => ?_) (fun c11 => ?_)
          · replace hM := if_f c11 hM
            refine lv_iconst (v := 0) hx hb dX8_constant_98 (by decide) ?_
            obtain ⟨r12, hcr12, hM⟩ := ob_use hM
            refine cl_V (As := [.int 31, .int o_L.1, .int 0]) (rest := []) (wM0 ad o_X o_L o_N r12 o_U o_O o_E o_Q o_V o_I ++ wMC cI ad o_C ++ wMX cI ad o_X ++ wMN cI ad o_N ++ wMT cI ad r12 ++ wMU cI ad o_U) [] ⟨hx, hb, hml, hown, hts⟩ (c_Model_leaf l D cI sd ad o_C o_X o_L o_N o_U o_O o_E o_Q o_V o_I o_T 31 o_L.1 0 r12 hcr12) (cwV2 hts q1277 mvX8_leaf rfl rfl ⟨(Nat.le_of_ble_eq_true rfl), (Nat.le_of_ble_eq_true rfl)⟩) hK hE hA hP hD hS 0 (T := TX8) (N := 48) (ci := 8) rfl rfl [0, 8, 9, 10, 11, 12, 13, 14] rfl (by decide) rfl rfl rfl rfl rfl rfl hl.1 (Nat.le_of_ble_eq_true rfl) dX8_constant_99 ⟨Nat.zero_le _, Nat.zero_le _⟩ (fun H locs hP hD hS => ?_)
            refine lv_aload_n hx hb dX8_constant_102 rfl (lv_at hl 0 rfl) ?_
            obtain ⟨r13, hcr13, hM⟩ := ob_use hM
            refine cl_V (As := []) (rest := []) (wM0 ad o_X r13.1 r13.2 r12 o_U o_O o_E o_Q o_V o_I ++ wMC cI ad o_C ++ wMX cI ad o_X ++ wMN cI ad r13.2 ++ wMT cI ad r12 ++ wMU cI ad o_U) [] ⟨hx, hb, hml, hown, hts⟩ (c_Model_step l D cI sd ad r12 o_U o_O o_E o_Q o_V o_I o_C o_X o_L o_N r13 hcr13) (cwV2 hts q1151 mvX8_step rfl rfl ⟨(Nat.le_of_ble_eq_true rfl), (Nat.le_of_ble_eq_true rfl)⟩) hK hE hA hP hD hS 0 (T := TX8) (N := 48) (ci := 8) rfl rfl [0, 1, 2, 3, 4, 5, 6, 7] rfl (by decide) rfl rfl rfl rfl rfl rfl hl.1 (Nat.le_of_ble_eq_true rfl) dX8_constant_103 ⟨Nat.zero_le _, Nat.zero_le _⟩ (fun H locs hP hD hS => ?_)
            refine lv_goto (tgt := 113) hx hb dX8_constant_106 (by decide) ?_
            cases hM
            exact rt_v hx hb hr hlk hP hD hS rfl dX8_constant_113
          · replace hM := if_t c11 hM
            refine lv_iconst (v := 1) hx hb dX8_constant_94 (by decide) ?_
            refine lv_goto (tgt := 99) hx hb dX8_constant_95 (by decide) ?_
            obtain ⟨r14, hcr14, hM⟩ := ob_use hM
            refine cl_V (As := [.int 31, .int o_L.1, .int 1]) (rest := []) (wM0 ad o_X o_L o_N r14 o_U o_O o_E o_Q o_V o_I ++ wMC cI ad o_C ++ wMX cI ad o_X ++ wMN cI ad o_N ++ wMT cI ad r14 ++ wMU cI ad o_U) [] ⟨hx, hb, hml, hown, hts⟩ (c_Model_leaf l D cI sd ad o_C o_X o_L o_N o_U o_O o_E o_Q o_V o_I o_T 31 o_L.1 1 r14 hcr14) (cwV2 hts q1277 mvX8_leaf rfl rfl ⟨(Nat.le_of_ble_eq_true rfl), (Nat.le_of_ble_eq_true rfl)⟩) hK hE hA hP hD hS 0 (T := TX8) (N := 48) (ci := 8) rfl rfl [0, 8, 9, 10, 11, 12, 13, 14] rfl (by decide) rfl rfl rfl rfl rfl rfl hl.1 (Nat.le_of_ble_eq_true rfl) dX8_constant_99 ⟨Nat.zero_le _, Nat.zero_le _⟩ (fun H locs hP hD hS => ?_)
            refine lv_aload_n hx hb dX8_constant_102 rfl (lv_at hl 0 rfl) ?_
            obtain ⟨r15, hcr15, hM⟩ := ob_use hM
            refine cl_V (As := []) (rest := []) (wM0 ad o_X r15.1 r15.2 r14 o_U o_O o_E o_Q o_V o_I ++ wMC cI ad o_C ++ wMX cI ad o_X ++ wMN cI ad r15.2 ++ wMT cI ad r14 ++ wMU cI ad o_U) [] ⟨hx, hb, hml, hown, hts⟩ (c_Model_step l D cI sd ad r14 o_U o_O o_E o_Q o_V o_I o_C o_X o_L o_N r15 hcr15) (cwV2 hts q1151 mvX8_step rfl rfl ⟨(Nat.le_of_ble_eq_true rfl), (Nat.le_of_ble_eq_true rfl)⟩) hK hE hA hP hD hS 0 (T := TX8) (N := 48) (ci := 8) rfl rfl [0, 1, 2, 3, 4, 5, 6, 7] rfl (by decide) rfl rfl rfl rfl rfl rfl hl.1 (Nat.le_of_ble_eq_true rfl) dX8_constant_103 ⟨Nat.zero_le _, Nat.zero_le _⟩ (fun H locs hP hD hS => ?_)
            refine lv_goto (tgt := 113) hx hb dX8_constant_106 (by decide) ?_
            cases hM
            exact rt_v hx hb hr hlk hP hD hS rfl dX8_constant_113
    · replace hM := if_t c2 hM
      refine lv_aload_n hx hb dX8_constant_39 rfl (lv_at hl 0 rfl) ?_
      refine lv_bipush (v := 30) hx hb dX8_constant_40 (by decide) ?_
      refine lv_aload_n hx hb dX8_constant_42 rfl (lv_at hl 0 rfl) ?_
      refine va_get (D := D) (ci := 8) (v := .int o_L.1) (C := RX8) (T := TX8) (N := 48) hx hb hts layX8 hown hK hP 0 rfl rfl 6 (by decide) (hts _ (inA q984)) (fun _ h9 => h9) rfl dX8_constant_43 ?_
      refine lv_aload_n hx hb dX8_constant_46 rfl (lv_at hl 0 rfl) ?_
      refine va_get (D := D) (ci := 8) (v := .int o_L.2.2.1) (C := RX8) (T := TX8) (N := 48) hx hb hts layX8 hown hK hP 0 rfl rfl 8 (by decide) (hts _ (inA q986)) (fun _ h9 => h9) rfl dX8_constant_47 ?_
      obtain ⟨r16, hcr16, hM⟩ := ob_use hM
      refine cl_V (As := [.int 30, .int o_L.1, .int o_L.2.2.1]) (rest := []) (wM0 ad o_X o_L o_N r16 o_U o_O o_E o_Q o_V o_I ++ wMC cI ad o_C ++ wMX cI ad o_X ++ wMN cI ad o_N ++ wMT cI ad r16 ++ wMU cI ad o_U) [] ⟨hx, hb, hml, hown, hts⟩ (c_Model_leaf l D cI sd ad o_C o_X o_L o_N o_U o_O o_E o_Q o_V o_I o_T 30 o_L.1 o_L.2.2.1 r16 hcr16) (cwV2 hts q1277 mvX8_leaf rfl rfl ⟨(Nat.le_of_ble_eq_true rfl), (Nat.le_of_ble_eq_true rfl)⟩) hK hE hA hP hD hS 0 (T := TX8) (N := 48) (ci := 8) rfl rfl [0, 8, 9, 10, 11, 12, 13, 14] rfl (by decide) rfl rfl rfl rfl rfl rfl hl.1 (Nat.le_of_ble_eq_true rfl) dX8_constant_50 ⟨Nat.zero_le _, Nat.zero_le _⟩ (fun H locs hP hD hS => ?_)
      refine lv_aload_n hx hb dX8_constant_53 rfl (lv_at hl 0 rfl) ?_
      obtain ⟨r17, hcr17, hM⟩ := ob_use hM
      refine cl_V (As := []) (rest := []) (wM0 ad o_X r17.1 r17.2 r16 o_U o_O o_E o_Q o_V o_I ++ wMC cI ad o_C ++ wMX cI ad o_X ++ wMN cI ad r17.2 ++ wMT cI ad r16 ++ wMU cI ad o_U) [] ⟨hx, hb, hml, hown, hts⟩ (c_Model_step l D cI sd ad r16 o_U o_O o_E o_Q o_V o_I o_C o_X o_L o_N r17 hcr17) (cwV2 hts q1151 mvX8_step rfl rfl ⟨(Nat.le_of_ble_eq_true rfl), (Nat.le_of_ble_eq_true rfl)⟩) hK hE hA hP hD hS 0 (T := TX8) (N := 48) (ci := 8) rfl rfl [0, 1, 2, 3, 4, 5, 6, 7] rfl (by decide) rfl rfl rfl rfl rfl rfl hl.1 (Nat.le_of_ble_eq_true rfl) dX8_constant_54 ⟨Nat.zero_le _, Nat.zero_le _⟩ (fun H locs hP hD hS => ?_)
      refine lv_goto (tgt := 113) hx hb dX8_constant_57 (by decide) ?_
      cases hM
      exact rt_v hx hb hr hlk hP hD hS rfl dX8_constant_113
  · replace hM := if_t c1 hM
    refine lv_aload_n hx hb dX8_constant_9 rfl (lv_at hl 0 rfl) ?_
    refine lv_aload_n hx hb dX8_constant_10 rfl (lv_at hl 0 rfl) ?_
    refine va_get (D := D) (ci := 8) (v := .int o_L.1) (C := RX8) (T := TX8) (N := 48) hx hb hts layX8 hown hK hP 0 rfl rfl 6 (by decide) (hts _ (inA q984)) (fun _ h9 => h9) rfl dX8_constant_11 ?_
    refine va_put (D := D) (ci := 8) (v := .int o_L.1) (ty := .int) (C := RX8) (T := TX8) (N := 48) hx hb hts layX8 tyX8 tyX8_ok nmX8 hown hK hP hD hS 0 rfl rfl 32 (by decide) (hts _ (inA q1010)) (fun _ h9 => h9) rfl (by decide +kernel) rfl rfl (Nat.le_of_ble_eq_true rfl) dX8_constant_14 (fun H locs hP hD hS => ?_)
    have hP : va_P D vwCl (wM0 ad o_X o_L o_N o_T o_U (o_O.1, o_O.2.1, o_O.2.2.1, o_O.2.2.2.1, o_O.2.2.2.2.1, o_L.1) o_E o_Q o_V o_I ++ wMC cI ad o_C ++ wMX cI ad o_X ++ wMN cI ad o_N ++ wMT cI ad o_T ++ wMU cI ad o_U) H := hP
    have hD : va_D A (wM0 ad o_X o_L o_N o_T o_U (o_O.1, o_O.2.1, o_O.2.2.1, o_O.2.2.2.1, o_O.2.2.2.2.1, o_L.1) o_E o_Q o_V o_I ++ wMC cI ad o_C ++ wMX cI ad o_X ++ wMN cI ad o_N ++ wMT cI ad o_T ++ wMU cI ad o_U) := hD
    refine lv_aload_n hx hb dX8_constant_17 rfl (lv_at hl 0 rfl) ?_
    obtain ⟨r18, hcr18, hM⟩ := ob_use hM
    refine cl_V (As := []) (rest := []) (wM0 ad o_X r18.1 r18.2 o_T o_U (o_O.1, o_O.2.1, o_O.2.2.1, o_O.2.2.2.1, o_O.2.2.2.2.1, o_L.1) o_E o_Q o_V o_I ++ wMC cI ad o_C ++ wMX cI ad o_X ++ wMN cI ad r18.2 ++ wMT cI ad o_T ++ wMU cI ad o_U) [] ⟨hx, hb, hml, hown, hts⟩ (c_Model_step l D cI sd ad o_T o_U (o_O.1, o_O.2.1, o_O.2.2.1, o_O.2.2.2.1, o_O.2.2.2.2.1, o_L.1) o_E o_Q o_V o_I o_C o_X o_L o_N r18 hcr18) (cwV2 hts q1151 mvX8_step rfl rfl ⟨(Nat.le_of_ble_eq_true rfl), (Nat.le_of_ble_eq_true rfl)⟩) hK hE hA hP hD hS 0 (T := TX8) (N := 48) (ci := 8) rfl rfl [0, 1, 2, 3, 4, 5, 6, 7] rfl (by decide) rfl rfl rfl rfl rfl rfl hl.1 (Nat.le_of_ble_eq_true rfl) dX8_constant_18 ⟨Nat.zero_le _, Nat.zero_le _⟩ (fun H locs hP hD hS => ?_)
    refine lv_aload_n hx hb dX8_constant_21 rfl (lv_at hl 0 rfl) ?_
    refine lv_bipush (v := 114) hx hb dX8_constant_22 (by decide) ?_
    obtain ⟨r19, hcr19, hM⟩ := ob_use hM
    refine cl_V (As := [.int 114]) (rest := []) (wM0 ad o_X r18.1 r18.2 o_T r19 (o_O.1, o_O.2.1, o_O.2.2.1, o_O.2.2.2.1, o_O.2.2.2.2.1, o_L.1) o_E o_Q o_V o_I ++ wMC cI ad o_C ++ wMX cI ad o_X ++ wMN cI ad r18.2 ++ wMT cI ad o_T ++ wMU cI ad r19) [] ⟨hx, hb, hml, hown, hts⟩ (c_Model_push l D cI sd ad o_C o_X r18.1 r18.2 o_T (o_O.1, o_O.2.1, o_O.2.2.1, o_O.2.2.2.1, o_O.2.2.2.2.1, o_L.1) o_E o_Q o_V o_I o_U 114 r19 hcr19) (cwV2 hts q1147 mvX8_push rfl rfl ⟨(Nat.le_of_ble_eq_true rfl), (Nat.le_of_ble_eq_true rfl)⟩) hK hE hA hP hD hS 0 (T := TX8) (N := 48) (ci := 8) rfl rfl [0, 15] rfl (by decide) rfl rfl rfl rfl rfl rfl hl.1 (Nat.le_of_ble_eq_true rfl) dX8_constant_24 ⟨Nat.zero_le _, Nat.zero_le _⟩ (fun H locs hP hD hS => ?_)
    refine lv_goto (tgt := 113) hx hb dX8_constant_27 (by decide) ?_
    cases hM
    exact rt_v hx hb hr hlk hP hD hS rfl dX8_constant_113

set_option maxHeartbeats 4000000 in
set_option maxRecDepth 100000 in
theorem c_Model_lessNumber (l : Launch) (D : va_G) (cI : ClassId) (sd : Nat → Nat) (ad : Nat → Nat) (o_U : S_MU) (o_E : S_ME) (o_Q : S_MQ) (o_V : S_MV) (o_I : S_MI) (o_C : S_MC) (o_X : S_MX) (o_L : S_ML) (o_N : S_MN) (o_T : S_MT) (o_O : S_MO) (res : S_ML × S_MN × S_MT) (hM : f_Model_lessNumber o_C o_X o_L o_N o_T o_O = some res) : Ctr l D cI sd yX8_lessNumber (wsM yX8_lessNumber cX8_lessNumber 1 (Option.none : Option Jvm.ClassFile.FieldType)) { frames := 6, cells := 0, slots := 0, locals := 133 } [.ref (ad 100)] (wM0 ad o_X o_L o_N o_T o_U o_O o_E o_Q o_V o_I ++ wMC cI ad o_C ++ wMX cI ad o_X ++ wMN cI ad o_N ++ wMT cI ad o_T) (wM0 ad o_X res.1 res.2.1 res.2.2 o_U o_O o_E o_Q o_V o_I ++ wMC cI ad o_C ++ wMX cI ad o_X ++ wMN cI ad res.2.1 ++ wMT cI ad res.2.2) none := by
  refine Ctr.of (cc := cX8_lessNumber) (maxL := 1) (own := RX8) (by decide +kernel) rfl rfl (Nat.le_of_ble_eq_true rfl) ?_
  intro p e s m below meth c A ls hx hb hr hml hown hts hlk hK hE hA hP hD hS hl
  have hl : lv_has ls 1 [(0, .ref (ad 100))] := hl
  unfold f_Model_lessNumber at hM
  refine lv_aload_n hx hb dX8_lessNumber_0 rfl (lv_at hl 0 rfl) ?_
  refine lv_bipush (v := 30) hx hb dX8_lessNumber_1 (by decide) ?_
  refine lv_aload_n hx hb dX8_lessNumber_3 rfl (lv_at hl 0 rfl) ?_
  refine va_get (D := D) (ci := 8) (v := .int o_O.2.2.2.2.2) (C := RX8) (T := TX8) (N := 48) hx hb hts layX8 hown hK hP 0 rfl rfl 32 (by decide) (hts _ (inA q1010)) (fun _ h9 => h9) rfl dX8_lessNumber_4 ?_
  refine lv_aload_n hx hb dX8_lessNumber_7 rfl (lv_at hl 0 rfl) ?_
  refine va_get (D := D) (ci := 8) (v := .int o_L.2.2.1) (C := RX8) (T := TX8) (N := 48) hx hb hts layX8 hown hK hP 0 rfl rfl 8 (by decide) (hts _ (inA q986)) (fun _ h9 => h9) rfl dX8_lessNumber_8 ?_
  refine lv_ineg hx hb dX8_lessNumber_11 ?_
  obtain ⟨r1, hcr1, hM⟩ := ob_use hM
  refine cl_V (As := [.int 30, .int o_O.2.2.2.2.2, .int (-o_L.2.2.1)]) (rest := []) (wM0 ad o_X o_L o_N r1 o_U o_O o_E o_Q o_V o_I ++ wMC cI ad o_C ++ wMX cI ad o_X ++ wMN cI ad o_N ++ wMT cI ad r1) [] ⟨hx, hb, hml, hown, hts⟩ (c_Model_leaf l D cI sd ad o_C o_X o_L o_N o_U o_O o_E o_Q o_V o_I o_T 30 o_O.2.2.2.2.2 (-o_L.2.2.1) r1 hcr1) (cwV2 hts q1277 mvX8_leaf rfl rfl ⟨(Nat.le_of_ble_eq_true rfl), (Nat.le_of_ble_eq_true rfl)⟩) hK hE hA hP hD hS 0 (T := TX8) (N := 48) (ci := 8) rfl rfl [0, 8, 9, 10, 11, 12, 13, 14] rfl (by decide) rfl rfl rfl rfl rfl rfl hl.1 (Nat.le_of_ble_eq_true rfl) dX8_lessNumber_12 ⟨Nat.zero_le _, Nat.zero_le _⟩ (fun H locs hP hD hS => ?_)
  refine lv_aload_n hx hb dX8_lessNumber_15 rfl (lv_at hl 0 rfl) ?_
  refine lv_bipush (v := 81) hx hb dX8_lessNumber_16 (by decide) ?_
  obtain ⟨r2, hcr2, hM⟩ := ob_use hM
  refine cl_V (As := [.int 81]) (rest := []) (wM0 ad o_X r2.1 r2.2 r1 o_U o_O o_E o_Q o_V o_I ++ wMC cI ad o_C ++ wMX cI ad o_X ++ wMN cI ad r2.2 ++ wMT cI ad r1) [] ⟨hx, hb, hml, hown, hts⟩ (c_Model_pass l D cI sd ad r1 o_U o_O o_E o_Q o_V o_I o_C o_X o_L o_N 81 r2 hcr2) (cwV2 hts q1229 mvX8_pass rfl rfl ⟨(Nat.le_of_ble_eq_true rfl), (Nat.le_of_ble_eq_true rfl)⟩) hK hE hA hP hD hS 0 (T := TX8) (N := 48) (ci := 8) rfl rfl [0, 1, 2, 3, 4, 5, 6, 7] rfl (by decide) rfl rfl rfl rfl rfl rfl hl.1 (Nat.le_of_ble_eq_true rfl) dX8_lessNumber_18 ⟨Nat.zero_le _, Nat.zero_le _⟩ (fun H locs hP hD hS => ?_)
  cases hM
  exact rt_v hx hb hr hlk hP hD hS rfl dX8_lessNumber_21

set_option maxHeartbeats 4000000 in
set_option maxRecDepth 100000 in
theorem c_Model_perhaps (l : Launch) (D : va_G) (cI : ClassId) (sd : Nat → Nat) (ad : Nat → Nat) (o_T : S_MT) (o_O : S_MO) (o_E : S_ME) (o_Q : S_MQ) (o_V : S_MV) (o_I : S_MI) (o_C : S_MC) (o_X : S_MX) (o_L : S_ML) (o_N : S_MN) (o_U : S_MU) (a1 : Int32) (a2 : Int32) (a3 : Int32) (res : S_ML × S_MN × S_MU) (hM : f_Model_perhaps o_C o_X o_L o_N o_U a1 a2 a3 = some res) : Ctr l D cI sd yX8_perhaps (wsM yX8_perhaps cX8_perhaps 4 (Option.none : Option Jvm.ClassFile.FieldType)) { frames := 5, cells := 0, slots := 0, locals := 112 } [.ref (ad 100), .int a1, .int a2, .int a3] (wM0 ad o_X o_L o_N o_T o_U o_O o_E o_Q o_V o_I ++ wMC cI ad o_C ++ wMX cI ad o_X ++ wMN cI ad o_N ++ wMU cI ad o_U) (wM0 ad o_X res.1 res.2.1 o_T res.2.2 o_O o_E o_Q o_V o_I ++ wMC cI ad o_C ++ wMX cI ad o_X ++ wMN cI ad res.2.1 ++ wMU cI ad res.2.2) none := by
  refine Ctr.of (cc := cX8_perhaps) (maxL := 4) (own := RX8) (by decide +kernel) rfl rfl (Nat.le_of_ble_eq_true rfl) ?_
  intro p e s m below meth c A ls hx hb hr hml hown hts hlk hK hE hA hP hD hS hl
  have hl : lv_has ls 4 [(0, .ref (ad 100)), (1, .int a1), (2, .int a2), (3, .int a3)] := hl
  unfold f_Model_perhaps at hM
  refine lv_aload_n hx hb dX8_perhaps_0 rfl (lv_at hl 0 rfl) ?_
  refine va_get (D := D) (ci := 8) (v := .int o_L.2.1) (C := RX8) (T := TX8) (N := 48) hx hb hts layX8 hown hK hP 0 rfl rfl 7 (by decide) (hts _ (inA q985)) (fun _ h9 => h9) rfl dX8_perhaps_1 ?_
  refine lv_iload_n hx hb dX8_perhaps_4 rfl (lv_at hl 1 rfl) ?_
  refine lv_icmp_ne (tgt := 27) hx hb dX8_perhaps_5 (by decide) (fun c1 => ?_) (fun c1 => ?_)
  · replace hM := if_f c1 hM
    cases hM
    exact rt_v hx hb hr hlk hP hD hS rfl dX8_perhaps_27
  · replace hM := if_t c1 hM
    refine lv_aload_n hx hb dX8_perhaps_8 rfl (lv_at hl 0 rfl) ?_
    obtain ⟨r2, hcr2, hM⟩ := ob_use hM
    refine cl_V (As := []) (rest := []) (wM0 ad o_X r2.1 r2.2 o_T o_U o_O o_E o_Q o_V o_I ++ wMC cI ad o_C ++ wMX cI ad o_X ++ wMN cI ad r2.2 ++ wMU cI ad o_U) [] ⟨hx, hb, hml, hown, hts⟩ (c_Model_step l D cI sd ad o_T o_U o_O o_E o_Q o_V o_I o_C o_X o_L o_N r2 hcr2) (cwV2 hts q1151 mvX8_step rfl rfl ⟨(Nat.le_of_ble_eq_true rfl), (Nat.le_of_ble_eq_true rfl)⟩) hK hE hA hP hD hS 0 (T := TX8) (N := 48) (ci := 8) rfl rfl [0, 1, 2, 3, 4, 5, 6, 7] rfl (by decide) rfl rfl rfl rfl rfl rfl hl.1 (Nat.le_of_ble_eq_true rfl) dX8_perhaps_9 ⟨Nat.zero_le _, Nat.zero_le _⟩ (fun H locs hP hD hS => ?_)
    refine lv_iload_n hx hb dX8_perhaps_12 rfl (lv_at hl 2 rfl) ?_
    refine lv_iconst (v := (-1)) hx hb dX8_perhaps_13 (by decide) ?_
    refine lv_icmp_eq (tgt := 22) hx hb dX8_perhaps_14 (by decide) (fun c3 => ?_) (fun c3 => ?_)
    · replace hM := if_t c3 hM
      refine lv_aload_n hx hb dX8_perhaps_22 rfl (lv_at hl 0 rfl) ?_
      refine lv_iload_n hx hb dX8_perhaps_23 rfl (lv_at hl 3 rfl) ?_
      obtain ⟨r4, hcr4, hM⟩ := ob_use hM
      refine cl_V (As := [.int a3]) (rest := []) (wM0 ad o_X r2.1 r2.2 o_T r4 o_O o_E o_Q o_V o_I ++ wMC cI ad o_C ++ wMX cI ad o_X ++ wMN cI ad r2.2 ++ wMU cI ad r4) [] ⟨hx, hb, hml, hown, hts⟩ (c_Model_push l D cI sd ad o_C o_X r2.1 r2.2 o_T o_O o_E o_Q o_V o_I o_U a3 r4 hcr4) (cwV2 hts q1147 mvX8_push rfl rfl ⟨(Nat.le_of_ble_eq_true rfl), (Nat.le_of_ble_eq_true rfl)⟩) hK hE hA hP hD hS 0 (T := TX8) (N := 48) (ci := 8) rfl rfl [0, 8] rfl (by decide) rfl rfl rfl rfl rfl rfl hl.1 (Nat.le_of_ble_eq_true rfl) dX8_perhaps_24 ⟨Nat.zero_le _, Nat.zero_le _⟩ (fun H locs hP hD hS => ?_)
      cases hM
      exact rt_v hx hb hr hlk hP hD hS rfl dX8_perhaps_27
    · replace hM := if_f c3 hM
      refine lv_aload_n hx hb dX8_perhaps_17 rfl (lv_at hl 0 rfl) ?_
      refine lv_iload_n hx hb dX8_perhaps_18 rfl (lv_at hl 2 rfl) ?_
      obtain ⟨r5, hcr5, hM⟩ := ob_use hM
      refine cl_V (As := [.int a2]) (rest := []) (wM0 ad o_X r2.1 r2.2 o_T r5 o_O o_E o_Q o_V o_I ++ wMC cI ad o_C ++ wMX cI ad o_X ++ wMN cI ad r2.2 ++ wMU cI ad r5) [] ⟨hx, hb, hml, hown, hts⟩ (c_Model_push l D cI sd ad o_C o_X r2.1 r2.2 o_T o_O o_E o_Q o_V o_I o_U a2 r5 hcr5) (cwV2 hts q1147 mvX8_push rfl rfl ⟨(Nat.le_of_ble_eq_true rfl), (Nat.le_of_ble_eq_true rfl)⟩) hK hE hA hP hD hS 0 (T := TX8) (N := 48) (ci := 8) rfl rfl [0, 8] rfl (by decide) rfl rfl rfl rfl rfl rfl hl.1 (Nat.le_of_ble_eq_true rfl) dX8_perhaps_19 ⟨Nat.zero_le _, Nat.zero_le _⟩ (fun H locs hP hD hS => ?_)
      refine lv_aload_n hx hb dX8_perhaps_22 rfl (lv_at hl 0 rfl) ?_
      refine lv_iload_n hx hb dX8_perhaps_23 rfl (lv_at hl 3 rfl) ?_
      obtain ⟨r6, hcr6, hM⟩ := ob_use hM
      refine cl_V (As := [.int a3]) (rest := []) (wM0 ad o_X r2.1 r2.2 o_T r6 o_O o_E o_Q o_V o_I ++ wMC cI ad o_C ++ wMX cI ad o_X ++ wMN cI ad r2.2 ++ wMU cI ad r6) [] ⟨hx, hb, hml, hown, hts⟩ (c_Model_push l D cI sd ad o_C o_X r2.1 r2.2 o_T o_O o_E o_Q o_V o_I r5 a3 r6 hcr6) (cwV2 hts q1147 mvX8_push rfl rfl ⟨(Nat.le_of_ble_eq_true rfl), (Nat.le_of_ble_eq_true rfl)⟩) hK hE hA hP hD hS 0 (T := TX8) (N := 48) (ci := 8) rfl rfl [0, 8] rfl (by decide) rfl rfl rfl rfl rfl rfl hl.1 (Nat.le_of_ble_eq_true rfl) dX8_perhaps_24 ⟨Nat.zero_le _, Nat.zero_le _⟩ (fun H locs hP hD hS => ?_)
      cases hM
      exact rt_v hx hb hr hlk hP hD hS rfl dX8_perhaps_27

set_option maxHeartbeats 4000000 in
set_option maxRecDepth 100000 in
theorem c_Model_compound (l : Launch) (D : va_G) (cI : ClassId) (sd : Nat → Nat) (ad : Nat → Nat) (o_O : S_MO) (o_E : S_ME) (o_Q : S_MQ) (o_V : S_MV) (o_I : S_MI) (o_C : S_MC) (o_X : S_MX) (o_L : S_ML) (o_N : S_MN) (o_T : S_MT) (o_U : S_MU) (res : S_ML × S_MN × S_MT × S_MU) (hM : f_Model_compound o_C o_X o_L o_N o_T o_U = some res) : Ctr l D cI sd yX8_compound (wsM yX8_compound cX8_compound 1 (Option.none : Option Jvm.ClassFile.FieldType)) { frames := 5, cells := 0, slots := 0, locals := 112 } [.ref (ad 100)] (wM0 ad o_X o_L o_N o_T o_U o_O o_E o_Q o_V o_I ++ wMC cI ad o_C ++ wMX cI ad o_X ++ wMN cI ad o_N ++ wMT cI ad o_T ++ wMU cI ad o_U) (wM0 ad o_X res.1 res.2.1 res.2.2.1 res.2.2.2 o_O o_E o_Q o_V o_I ++ wMC cI ad o_C ++ wMX cI ad o_X ++ wMN cI ad res.2.1 ++ wMT cI ad res.2.2.1 ++ wMU cI ad res.2.2.2) none := by
  refine Ctr.of (cc := cX8_compound) (maxL := 1) (own := RX8) (by decide +kernel) rfl rfl (Nat.le_of_ble_eq_true rfl) ?_
  intro p e s m below meth c A ls hx hb hr hml hown hts hlk hK hE hA hP hD hS hl
  have hl : lv_has ls 1 [(0, .ref (ad 100))] := hl
  unfold f_Model_compound at hM
  refine lv_aload_n hx hb dX8_compound_0 rfl (lv_at hl 0 rfl) ?_
  refine lv_bipush (v := 115) hx hb dX8_compound_1 (by decide) ?_
  refine lv_bipush (v := 118) hx hb dX8_compound_3 (by decide) ?_
  refine lv_bipush (v := 60) hx hb dX8_compound_5 (by decide) ?_
  refine lv_aload_n hx hb dX8_compound_7 rfl (lv_at hl 0 rfl) ?_
  refine va_get (D := D) (ci := 8) (v := .int o_L.2.1) (C := RX8) (T := TX8) (N := 48) hx hb hts layX8 hown hK hP 0 rfl rfl 7 (by decide) (hts _ (inA q985)) (fun _ h9 => h9) rfl dX8_compound_8 ?_
  refine lv_bipush (v := 16) hx hb dX8_compound_11 (by decide) ?_
  refine lv_icmp_ne (tgt := 21) hx hb dX8_compound_13 (by decide) (fun c1 => ?_) (fun c1 => ?_)
  · replace hM := if_f c1 hM
    refine lv_aload_n hx hb dX8_compound_21 rfl (lv_at hl 0 rfl) ?_
    refine va_get (D := D) (ci := 8) (v := .int o_L.2.1) (C := RX8) (T := TX8) (N := 48) hx hb hts layX8 hown hK hP 0 rfl rfl 7 (by decide) (hts _ (inA q985)) (fun _ h9 => h9) rfl dX8_compound_22 ?_
    refine lv_bipush (v := 21) hx hb dX8_compound_25 (by decide) ?_
    refine lv_icmp_ne (tgt := 35) hx hb dX8_compound_27 (by decide) (fun c2 => ?_) (fun c2 => ?_)
    · replace hM := if_f c2 hM
      refine lv_bipush (v := 27) hx hb dX8_compound_35 (by decide) ?_
      obtain ⟨r3, hcr3, hM⟩ := ob_use hM
      refine cl_V (As := [.int 115, .int 118, .int 60, .int 27]) (rest := []) (wM0 ad o_X o_L o_N o_T r3 o_O o_E o_Q o_V o_I ++ wMC cI ad o_C ++ wMX cI ad o_X ++ wMN cI ad o_N ++ wMT cI ad o_T ++ wMU cI ad r3) [] ⟨hx, hb, hml, hown, hts⟩ (c_Model_push4 l D cI sd ad o_C o_X o_L o_N o_T o_O o_E o_Q o_V o_I o_U 115 118 60 27 r3 hcr3) (cwV2 hts q1253 mvX8_push4 rfl rfl ⟨(Nat.le_of_ble_eq_true rfl), (Nat.le_of_ble_eq_true rfl)⟩) hK hE hA hP hD hS 0 (T := TX8) (N := 48) (ci := 8) rfl rfl [0, 15] rfl (by decide) rfl rfl rfl rfl rfl rfl hl.1 (Nat.le_of_ble_eq_true rfl) dX8_compound_37 ⟨Nat.zero_le _, Nat.zero_le _⟩ (fun H locs hP hD hS => ?_)
      refine lv_aload_n hx hb dX8_compound_40 rfl (lv_at hl 0 rfl) ?_
      refine va_get (D := D) (ci := 8) (v := .int o_L.2.1) (C := RX8) (T := TX8) (N := 48) hx hb hts layX8 hown hK hP 0 rfl rfl 7 (by decide) (hts _ (inA q985)) (fun _ h9 => h9) rfl dX8_compound_41 ?_
      refine lv_bipush (v := 16) hx hb dX8_compound_44 (by decide) ?_
      refine lv_icmp_ne (tgt := 75) hx hb dX8_compound_46 (by decide) (fun c4 => ?_) (fun c4 => ?_)
      · replace hM := if_f c4 hM
        refine lv_aload_n hx hb dX8_compound_75 rfl (lv_at hl 0 rfl) ?_
        refine va_get (D := D) (ci := 8) (v := .int o_L.2.1) (C := RX8) (T := TX8) (N := 48) hx hb hts layX8 hown hK hP 0 rfl rfl 7 (by decide) (hts _ (inA q985)) (fun _ h9 => h9) rfl dX8_compound_76 ?_
        refine lv_bipush (v := 21) hx hb dX8_compound_79 (by decide) ?_
        refine lv_icmp_ne (tgt := 116) hx hb dX8_compound_81 (by decide) (fun c5 => ?_) (fun c5 => ?_)
        · replace hM := if_f c5 hM
          refine lv_aload_n hx hb dX8_compound_116 rfl (lv_at hl 0 rfl) ?_
          refine lv_bipush (v := 19) hx hb dX8_compound_117 (by decide) ?_
          refine lv_aload_n hx hb dX8_compound_119 rfl (lv_at hl 0 rfl) ?_
          refine va_get (D := D) (ci := 8) (v := .int o_L.1) (C := RX8) (T := TX8) (N := 48) hx hb hts layX8 hown hK hP 0 rfl rfl 6 (by decide) (hts _ (inA q984)) (fun _ h9 => h9) rfl dX8_compound_120 ?_
          refine lv_iconst (v := 0) hx hb dX8_compound_123 (by decide) ?_
          obtain ⟨r6, hcr6, hM⟩ := ob_use hM
          refine cl_V (As := [.int 19, .int o_L.1, .int 0]) (rest := []) (wM0 ad o_X o_L o_N r6 r3 o_O o_E o_Q o_V o_I ++ wMC cI ad o_C ++ wMX cI ad o_X ++ wMN cI ad o_N ++ wMT cI ad r6 ++ wMU cI ad r3) [] ⟨hx, hb, hml, hown, hts⟩ (c_Model_down l D cI sd ad o_C o_X o_L o_N r3 o_O o_E o_Q o_V o_I o_T 19 o_L.1 0 r6 hcr6) (cwV2 hts q1245 mvX8_down rfl rfl ⟨(Nat.le_of_ble_eq_true rfl), (Nat.le_of_ble_eq_true rfl)⟩) hK hE hA hP hD hS 0 (T := TX8) (N := 48) (ci := 8) rfl rfl [0, 8, 9, 10, 11, 12, 13, 14] rfl (by decide) rfl rfl rfl rfl rfl rfl hl.1 (Nat.le_of_ble_eq_true rfl) dX8_compound_124 ⟨Nat.zero_le _, Nat.zero_le _⟩ (fun H locs hP hD hS => ?_)
          refine lv_aload_n hx hb dX8_compound_127 rfl (lv_at hl 0 rfl) ?_
          refine lv_bipush (v := 126) hx hb dX8_compound_128 (by decide) ?_
          refine lv_bipush (v := 127) hx hb dX8_compound_130 (by decide) ?_
          refine lv_bipush (v := 113) hx hb dX8_compound_132 (by decide) ?_
          refine lv_bipush (v := 24) hx hb dX8_compound_134 (by decide) ?_
          obtain ⟨r7, hcr7, hM⟩ := ob_use hM
          refine cl_V (As := [.int 126, .int 127, .int 113, .int 24]) (rest := []) (wM0 ad o_X o_L o_N r6 r7 o_O o_E o_Q o_V o_I ++ wMC cI ad o_C ++ wMX cI ad o_X ++ wMN cI ad o_N ++ wMT cI ad r6 ++ wMU cI ad r7) [] ⟨hx, hb, hml, hown, hts⟩ (c_Model_push4 l D cI sd ad o_C o_X o_L o_N r6 o_O o_E o_Q o_V o_I r3 126 127 113 24 r7 hcr7) (cwV2 hts q1253 mvX8_push4 rfl rfl ⟨(Nat.le_of_ble_eq_true rfl), (Nat.le_of_ble_eq_true rfl)⟩) hK hE hA hP hD hS 0 (T := TX8) (N := 48) (ci := 8) rfl rfl [0, 15] rfl (by decide) rfl rfl rfl rfl rfl rfl hl.1 (Nat.le_of_ble_eq_true rfl) dX8_compound_136 ⟨Nat.zero_le _, Nat.zero_le _⟩ (fun H locs hP hD hS => ?_)
          refine lv_aload_n hx hb dX8_compound_139 rfl (lv_at hl 0 rfl) ?_
          refine lv_bipush (v := 113) hx hb dX8_compound_140 (by decide) ?_
          refine lv_bipush (v := 50) hx hb dX8_compound_142 (by decide) ?_
          obtain ⟨r8, hcr8, hM⟩ := ob_use hM
          refine cl_V (As := [.int 113, .int 50]) (rest := []) (wM0 ad o_X o_L o_N r6 r8 o_O o_E o_Q o_V o_I ++ wMC cI ad o_C ++ wMX cI ad o_X ++ wMN cI ad o_N ++ wMT cI ad r6 ++ wMU cI ad r8) [] ⟨hx, hb, hml, hown, hts⟩ (c_Model_push2 l D cI sd ad o_C o_X o_L o_N r6 o_O o_E o_Q o_V o_I r7 113 50 r8 hcr8) (cwV2 hts q1257 mvX8_push2 rfl rfl ⟨(Nat.le_of_ble_eq_true rfl), (Nat.le_of_ble_eq_true rfl)⟩) hK hE hA hP hD hS 0 (T := TX8) (N := 48) (ci := 8) rfl rfl [0, 15] rfl (by decide) rfl rfl rfl rfl rfl rfl hl.1 (Nat.le_of_ble_eq_true rfl) dX8_compound_144 ⟨Nat.zero_le _, Nat.zero_le _⟩ (fun H locs hP hD hS => ?_)
          refine lv_aload_n hx hb dX8_compound_147 rfl (lv_at hl 0 rfl) ?_
          refine lv_bipush (v := 105) hx hb dX8_compound_148 (by decide) ?_
          obtain ⟨r9, hcr9, hM⟩ := ob_use hM
          refine cl_V (As := [.int 105]) (rest := []) (wM0 ad o_X o_L o_N r6 r9 o_O o_E o_Q o_V o_I ++ wMC cI ad o_C ++ wMX cI ad o_X ++ wMN cI ad o_N ++ wMT cI ad r6 ++ wMU cI ad r9) [] ⟨hx, hb, hml, hown, hts⟩ (c_Model_push l D cI sd ad o_C o_X o_L o_N r6 o_O o_E o_Q o_V o_I r8 105 r9 hcr9) (cwV2 hts q1147 mvX8_push rfl rfl ⟨(Nat.le_of_ble_eq_true rfl), (Nat.le_of_ble_eq_true rfl)⟩) hK hE hA hP hD hS 0 (T := TX8) (N := 48) (ci := 8) rfl rfl [0, 15] rfl (by decide) rfl rfl rfl rfl rfl rfl hl.1 (Nat.le_of_ble_eq_true rfl) dX8_compound_150 ⟨Nat.zero_le _, Nat.zero_le _⟩ (fun H locs hP hD hS => ?_)
          refine lv_aload_n hx hb dX8_compound_153 rfl (lv_at hl 0 rfl) ?_
          obtain ⟨r10, hcr10, hM⟩ := ob_use hM
          refine cl_V (As := []) (rest := []) (wM0 ad o_X r10.1 r10.2 r6 r9 o_O o_E o_Q o_V o_I ++ wMC cI ad o_C ++ wMX cI ad o_X ++ wMN cI ad r10.2 ++ wMT cI ad r6 ++ wMU cI ad r9) [] ⟨hx, hb, hml, hown, hts⟩ (c_Model_step l D cI sd ad r6 r9 o_O o_E o_Q o_V o_I o_C o_X o_L o_N r10 hcr10) (cwV2 hts q1151 mvX8_step rfl rfl ⟨(Nat.le_of_ble_eq_true rfl), (Nat.le_of_ble_eq_true rfl)⟩) hK hE hA hP hD hS 0 (T := TX8) (N := 48) (ci := 8) rfl rfl [0, 1, 2, 3, 4, 5, 6, 7] rfl (by decide) rfl rfl rfl rfl rfl rfl hl.1 (Nat.le_of_ble_eq_true rfl) dX8_compound_154 ⟨Nat.zero_le _, Nat.zero_le _⟩ (fun H locs hP hD hS => ?_)
          cases hM
          exact rt_v hx hb hr hlk hP hD hS rfl dX8_compound_157
        · replace hM := if_t c5 hM
          refine lv_aload_n hx hb dX8_compound_84 rfl (lv_at hl 0 rfl) ?_
          refine lv_bipush (v := 16) hx hb dX8_compound_85 (by decide) ?_
          refine lv_aload_n hx hb dX8_compound_87 rfl (lv_at hl 0 rfl) ?_
          refine va_get (D := D) (ci := 8) (v := .int o_L.1) (C := RX8) (T := TX8) (N := 48) hx hb hts layX8 hown hK hP 0 rfl rfl 6 (by decide) (hts _ (inA q984)) (fun _ h9 => h9) rfl dX8_compound_88 ?_
          refine lv_iconst (v := 0) hx hb dX8_compound_91 (by decide) ?_
          obtain ⟨r11, hcr11, hM⟩ := ob_use hM
          refine cl_V (As := [.int 16, .int o_L.1, .int 0]) (rest := []) (wM0 ad o_X o_L o_N r11 r3 o_O o_E o_Q o_V o_I ++ wMC cI ad o_C ++ wMX cI ad o_X ++ wMN cI ad o_N ++ wMT cI ad r11 ++ wMU cI ad r3) [] ⟨hx, hb, hml, hown, hts⟩ (c_Model_down l D cI sd ad o_C o_X o_L o_N r3 o_O o_E o_Q o_V o_I o_T 16 o_L.1 0 r11 hcr11) (cwV2 hts q1245 mvX8_down rfl rfl ⟨(Nat.le_of_ble_eq_true rfl), (Nat.le_of_ble_eq_true rfl)⟩) hK hE hA hP hD hS 0 (T := TX8) (N := 48) (ci := 8) rfl rfl [0, 8, 9, 10, 11, 12, 13, 14] rfl (by decide) rfl rfl rfl rfl rfl rfl hl.1 (Nat.le_of_ble_eq_true rfl) dX8_compound_92 ⟨Nat.zero_le _, Nat.zero_le _⟩ (fun H locs hP hD hS => ?_)
          refine lv_aload_n hx hb dX8_compound_95 rfl (lv_at hl 0 rfl) ?_
          refine lv_bipush (v := 120) hx hb dX8_compound_96 (by decide) ?_
          refine lv_bipush (v := 121) hx hb dX8_compound_98 (by decide) ?_
          obtain ⟨r12, hcr12, hM⟩ := ob_use hM
          refine cl_V (As := [.int 120, .int 121]) (rest := []) (wM0 ad o_X o_L o_N r11 r12 o_O o_E o_Q o_V o_I ++ wMC cI ad o_C ++ wMX cI ad o_X ++ wMN cI ad o_N ++ wMT cI ad r11 ++ wMU cI ad r12) [] ⟨hx, hb, hml, hown, hts⟩ (c_Model_push2 l D cI sd ad o_C o_X o_L o_N r11 o_O o_E o_Q o_V o_I r3 120 121 r12 hcr12) (cwV2 hts q1257 mvX8_push2 rfl rfl ⟨(Nat.le_of_ble_eq_true rfl), (Nat.le_of_ble_eq_true rfl)⟩) hK hE hA hP hD hS 0 (T := TX8) (N := 48) (ci := 8) rfl rfl [0, 15] rfl (by decide) rfl rfl rfl rfl rfl rfl hl.1 (Nat.le_of_ble_eq_true rfl) dX8_compound_100 ⟨Nat.zero_le _, Nat.zero_le _⟩ (fun H locs hP hD hS => ?_)
          refine lv_aload_n hx hb dX8_compound_103 rfl (lv_at hl 0 rfl) ?_
          refine lv_bipush (v := 15) hx hb dX8_compound_104 (by decide) ?_
          obtain ⟨r13, hcr13, hM⟩ := ob_use hM
          refine cl_V (As := [.int 15]) (rest := []) (wM0 ad o_X o_L o_N r11 r13 o_O o_E o_Q o_V o_I ++ wMC cI ad o_C ++ wMX cI ad o_X ++ wMN cI ad o_N ++ wMT cI ad r11 ++ wMU cI ad r13) [] ⟨hx, hb, hml, hown, hts⟩ (c_Model_push l D cI sd ad o_C o_X o_L o_N r11 o_O o_E o_Q o_V o_I r12 15 r13 hcr13) (cwV2 hts q1147 mvX8_push rfl rfl ⟨(Nat.le_of_ble_eq_true rfl), (Nat.le_of_ble_eq_true rfl)⟩) hK hE hA hP hD hS 0 (T := TX8) (N := 48) (ci := 8) rfl rfl [0, 15] rfl (by decide) rfl rfl rfl rfl rfl rfl hl.1 (Nat.le_of_ble_eq_true rfl) dX8_compound_106 ⟨Nat.zero_le _, Nat.zero_le _⟩ (fun H locs hP hD hS => ?_)
          refine lv_aload_n hx hb dX8_compound_109 rfl (lv_at hl 0 rfl) ?_
          obtain ⟨r14, hcr14, hM⟩ := ob_use hM
          refine cl_V (As := []) (rest := []) (wM0 ad o_X o_L o_N r11 r14 o_O o_E o_Q o_V o_I ++ wMC cI ad o_C ++ wMX cI ad o_X ++ wMN cI ad o_N ++ wMT cI ad r11 ++ wMU cI ad r14) [] ⟨hx, hb, hml, hown, hts⟩ (c_Model_pushExpression l D cI sd ad o_C o_X o_L o_N r11 o_O o_E o_Q o_V o_I r13 r14 hcr14) (cwV2 hts q1329 mvX8_pushExpression rfl rfl ⟨(Nat.le_of_ble_eq_true rfl), (Nat.le_of_ble_eq_true rfl)⟩) hK hE hA hP hD hS 0 (T := TX8) (N := 48) (ci := 8) rfl rfl [0, 15] rfl (by decide) rfl rfl rfl rfl rfl rfl hl.1 (Nat.le_of_ble_eq_true rfl) dX8_compound_110 ⟨Nat.zero_le _, Nat.zero_le _⟩ (fun H locs hP hD hS => ?_)
          refine lv_goto (tgt := 153) hx hb dX8_compound_113 (by decide) ?_
          refine lv_aload_n hx hb dX8_compound_153 rfl (lv_at hl 0 rfl) ?_
          obtain ⟨r15, hcr15, hM⟩ := ob_use hM
          refine cl_V (As := []) (rest := []) (wM0 ad o_X r15.1 r15.2 r11 r14 o_O o_E o_Q o_V o_I ++ wMC cI ad o_C ++ wMX cI ad o_X ++ wMN cI ad r15.2 ++ wMT cI ad r11 ++ wMU cI ad r14) [] ⟨hx, hb, hml, hown, hts⟩ (c_Model_step l D cI sd ad r11 r14 o_O o_E o_Q o_V o_I o_C o_X o_L o_N r15 hcr15) (cwV2 hts q1151 mvX8_step rfl rfl ⟨(Nat.le_of_ble_eq_true rfl), (Nat.le_of_ble_eq_true rfl)⟩) hK hE hA hP hD hS 0 (T := TX8) (N := 48) (ci := 8) rfl rfl [0, 1, 2, 3, 4, 5, 6, 7] rfl (by decide) rfl rfl rfl rfl rfl rfl hl.1 (Nat.le_of_ble_eq_true rfl) dX8_compound_154 ⟨Nat.zero_le _, Nat.zero_le _⟩ (fun H locs hP hD hS => ?_)
          cases hM
          exact rt_v hx hb hr hlk hP hD hS rfl dX8_compound_157
      · replace hM := if_t c4 hM
        refine lv_aload_n hx hb dX8_compound_49 rfl (lv_at hl 0 rfl) ?_
        refine lv_bipush (v := 15) hx hb dX8_compound_50 (by decide) ?_
        refine lv_aload_n hx hb dX8_compound_52 rfl (lv_at hl 0 rfl) ?_
        refine va_get (D := D) (ci := 8) (v := .int o_L.1) (C := RX8) (T := TX8) (N := 48) hx hb hts layX8 hown hK hP 0 rfl rfl 6 (by decide) (hts _ (inA q984)) (fun _ h9 => h9) rfl dX8_compound_53 ?_
        refine lv_iconst (v := 0) hx hb dX8_compound_56 (by decide) ?_
        obtain ⟨r16, hcr16, hM⟩ := ob_use hM
        refine cl_V (As := [.int 15, .int o_L.1, .int 0]) (rest := []) (wM0 ad o_X o_L o_N r16 r3 o_O o_E o_Q o_V o_I ++ wMC cI ad o_C ++ wMX cI ad o_X ++ wMN cI ad o_N ++ wMT cI ad r16 ++ wMU cI ad r3) [] ⟨hx, hb, hml, hown, hts⟩ (c_Model_down l D cI sd ad o_C o_X o_L o_N r3 o_O o_E o_Q o_V o_I o_T 15 o_L.1 0 r16 hcr16) (cwV2 hts q1245 mvX8_down rfl rfl ⟨(Nat.le_of_ble_eq_true rfl), (Nat.le_of_ble_eq_true rfl)⟩) hK hE hA hP hD hS 0 (T := TX8) (N := 48) (ci := 8) rfl rfl [0, 8, 9, 10, 11, 12, 13, 14] rfl (by decide) rfl rfl rfl rfl rfl rfl hl.1 (Nat.le_of_ble_eq_true rfl) dX8_compound_57 ⟨Nat.zero_le _, Nat.zero_le _⟩ (fun H locs hP hD hS => ?_)
        refine lv_aload_n hx hb dX8_compound_60 rfl (lv_at hl 0 rfl) ?_
        refine lv_bipush (v := 117) hx hb dX8_compound_61 (by decide) ?_
        refine lv_bipush (v := 119) hx hb dX8_compound_63 (by decide) ?_
        obtain ⟨r17, hcr17, hM⟩ := ob_use hM
        refine cl_V (As := [.int 117, .int 119]) (rest := []) (wM0 ad o_X o_L o_N r16 r17 o_O o_E o_Q o_V o_I ++ wMC cI ad o_C ++ wMX cI ad o_X ++ wMN cI ad o_N ++ wMT cI ad r16 ++ wMU cI ad r17) [] ⟨hx, hb, hml, hown, hts⟩ (c_Model_push2 l D cI sd ad o_C o_X o_L o_N r16 o_O o_E o_Q o_V o_I r3 117 119 r17 hcr17) (cwV2 hts q1257 mvX8_push2 rfl rfl ⟨(Nat.le_of_ble_eq_true rfl), (Nat.le_of_ble_eq_true rfl)⟩) hK hE hA hP hD hS 0 (T := TX8) (N := 48) (ci := 8) rfl rfl [0, 15] rfl (by decide) rfl rfl rfl rfl rfl rfl hl.1 (Nat.le_of_ble_eq_true rfl) dX8_compound_65 ⟨Nat.zero_le _, Nat.zero_le _⟩ (fun H locs hP hD hS => ?_)
        refine lv_aload_n hx hb dX8_compound_68 rfl (lv_at hl 0 rfl) ?_
        obtain ⟨r18, hcr18, hM⟩ := ob_use hM
        refine cl_V (As := []) (rest := []) (wM0 ad o_X o_L o_N r16 r18 o_O o_E o_Q o_V o_I ++ wMC cI ad o_C ++ wMX cI ad o_X ++ wMN cI ad o_N ++ wMT cI ad r16 ++ wMU cI ad r18) [] ⟨hx, hb, hml, hown, hts⟩ (c_Model_pushExpression l D cI sd ad o_C o_X o_L o_N r16 o_O o_E o_Q o_V o_I r17 r18 hcr18) (cwV2 hts q1329 mvX8_pushExpression rfl rfl ⟨(Nat.le_of_ble_eq_true rfl), (Nat.le_of_ble_eq_true rfl)⟩) hK hE hA hP hD hS 0 (T := TX8) (N := 48) (ci := 8) rfl rfl [0, 15] rfl (by decide) rfl rfl rfl rfl rfl rfl hl.1 (Nat.le_of_ble_eq_true rfl) dX8_compound_69 ⟨Nat.zero_le _, Nat.zero_le _⟩ (fun H locs hP hD hS => ?_)
        refine lv_goto (tgt := 153) hx hb dX8_compound_72 (by decide) ?_
        refine lv_aload_n hx hb dX8_compound_153 rfl (lv_at hl 0 rfl) ?_
        obtain ⟨r19, hcr19, hM⟩ := ob_use hM
        refine cl_V (As := []) (rest := []) (wM0 ad o_X r19.1 r19.2 r16 r18 o_O o_E o_Q o_V o_I ++ wMC cI ad o_C ++ wMX cI ad o_X ++ wMN cI ad r19.2 ++ wMT cI ad r16 ++ wMU cI ad r18) [] ⟨hx, hb, hml, hown, hts⟩ (c_Model_step l D cI sd ad r16 r18 o_O o_E o_Q o_V o_I o_C o_X o_L o_N r19 hcr19) (cwV2 hts q1151 mvX8_step rfl rfl ⟨(Nat.le_of_ble_eq_true rfl), (Nat.le_of_ble_eq_true rfl)⟩) hK hE hA hP hD hS 0 (T := TX8) (N := 48) (ci := 8) rfl rfl [0, 1, 2, 3, 4, 5, 6, 7] rfl (by decide) rfl rfl rfl rfl rfl rfl hl.1 (Nat.le_of_ble_eq_true rfl) dX8_compound_154 ⟨Nat.zero_le _, Nat.zero_le _⟩ (fun H locs hP hD hS => ?_)
        cases hM
        exact rt_v hx hb hr hlk hP hD hS rfl dX8_compound_157
    · replace hM := if_t c2 hM
      refine lv_bipush (v := 22) hx hb dX8_compound_30 (by decide) ?_
      refine lv_goto (tgt := 37) hx hb dX8_compound_32 (by decide) ?_
      obtain ⟨r20, hcr20, hM⟩ := ob_use hM
      refine cl_V (As := [.int 115, .int 118, .int 60, .int 22]) (rest := []) (wM0 ad o_X o_L o_N o_T r20 o_O o_E o_Q o_V o_I ++ wMC cI ad o_C ++ wMX cI ad o_X ++ wMN cI ad o_N ++ wMT cI ad o_T ++ wMU cI ad r20) [] ⟨hx, hb, hml, hown, hts⟩ (c_Model_push4 l D cI sd ad o_C o_X o_L o_N o_T o_O o_E o_Q o_V o_I o_U 115 118 60 22 r20 hcr20) (cwV2 hts q1253 mvX8_push4 rfl rfl ⟨(Nat.le_of_ble_eq_true rfl), (Nat.le_of_ble_eq_true rfl)⟩) hK hE hA hP hD hS 0 (T := TX8) (N := 48) (ci := 8) rfl rfl [0, 15] rfl (by decide) rfl rfl rfl rfl rfl rfl hl.1 (Nat.le_of_ble_eq_true rfl) dX8_compound_37 ⟨Nat.zero_le _, Nat.zero_le _⟩ (fun H locs hP hD hS => ?_)
      refine lv_aload_n hx hb dX8_compound_40 rfl (lv_at hl 0 rfl) ?_
      refine va_get (D := D) (ci := 8) (v := .int o_L.2.1) (C := RX8) (T := TX8) (N := 48) hx hb hts layX8 hown hK hP 0 rfl rfl 7 (by decide) (hts _ (inA q985)) (fun _ h9 => h9) rfl dX8_compound_41 ?_
      refine lv_bipush (v := 16) hx hb dX8_compound_44 (by decide) ?_
      refine lv_icmp_ne (tgt := 75) hx hb dX8_compound_46 (by decide) (fun c21 => ?_) (fun c21 => ?_)
      · replace hM := if_f c21 hM
        refine lv_aload_n hx hb dX8_compound_75 rfl (lv_at hl 0 rfl) ?_
        refine va_get (D := D) (ci := 8) (v := .int o_L.2.1) (C := RX8) (T := TX8) (N := 48) hx hb hts layX8 hown hK hP 0 rfl rfl 7 (by decide) (hts _ (inA q985)) (fun _ h9 => h9) rfl dX8_compound_76 ?_
        refine lv_bipush (v := 21) hx hb dX8_compound_79 (by decide) ?_
        refine lv_icmp_ne (tgt := 116) hx hb dX8_compound_81 (by decide) (fun c22 => ?_) (fun c22 => ?_)
        · replace hM := if_f c22 hM
          refine lv_aload_n hx hb dX8_compound_116 rfl (lv_at hl 0 rfl) ?_
          refine lv_bipush (v := 19) hx hb dX8_compound_117 (by decide) ?_
          refine lv_aload_n hx hb dX8_compound_119 rfl (lv_at hl 0 rfl) ?_
          refine va_get (D := D) (ci := 8) (v := .int o_L.1) (C := RX8) (T := TX8) (N := 48) hx hb hts layX8 hown hK hP 0 rfl rfl 6 (by decide) (hts _ (inA q984)) (fun _ h9 => h9) rfl dX8_compound_120 ?_
          refine lv_iconst (v := 0) hx hb dX8_compound_123 (by decide) ?_
          obtain ⟨r23, hcr23, hM⟩ := ob_use hM
          refine cl_V (As := [.int 19, .int o_L.1, .int 0]) (rest := []) (wM0 ad o_X o_L o_N r23 r20 o_O o_E o_Q o_V o_I ++ wMC cI ad o_C ++ wMX cI ad o_X ++ wMN cI ad o_N ++ wMT cI ad r23 ++ wMU cI ad r20) [] ⟨hx, hb, hml, hown, hts⟩ (c_Model_down l D cI sd ad o_C o_X o_L o_N r20 o_O o_E o_Q o_V o_I o_T 19 o_L.1 0 r23 hcr23) (cwV2 hts q1245 mvX8_down rfl rfl ⟨(Nat.le_of_ble_eq_true rfl), (Nat.le_of_ble_eq_true rfl)⟩) hK hE hA hP hD hS 0 (T := TX8) (N := 48) (ci := 8) rfl rfl [0, 8, 9, 10, 11, 12, 13, 14] rfl (by decide) rfl rfl rfl rfl rfl rfl hl.1 (Nat.le_of_ble_eq_true rfl) dX8_compound_124 ⟨Nat.zero_le _, Nat.zero_le _⟩ (fun H locs hP hD hS => ?_)
          refine lv_aload_n hx hb dX8_compound_127 rfl (lv_at hl 0 rfl) ?_
          refine lv_bipush (v := 126) hx hb dX8_compound_128 (by decide) ?_
          refine lv_bipush (v := 127) hx hb dX8_compound_130 (by decide) ?_
          refine lv_bipush (v := 113) hx hb dX8_compound_132 (by decide) ?_
          refine lv_bipush (v := 24) hx hb dX8_compound_134 (by decide) ?_
          obtain ⟨r24, hcr24, hM⟩ := ob_use hM
          refine cl_V (As := [.int 126, .int 127, .int 113, .int 24]) (rest := []) (wM0 ad o_X o_L o_N r23 r24 o_O o_E o_Q o_V o_I ++ wMC cI ad o_C ++ wMX cI ad o_X ++ wMN cI ad o_N ++ wMT cI ad r23 ++ wMU cI ad r24) [] ⟨hx, hb, hml, hown, hts⟩ (c_Model_push4 l D cI sd ad o_C o_X o_L o_N r23 o_O o_E o_Q o_V o_I r20 126 127 113 24 r24 hcr24) (cwV2 hts q1253 mvX8_push4 rfl rfl ⟨(Nat.le_of_ble_eq_true rfl), (Nat.le_of_ble_eq_true rfl)⟩) hK hE hA hP hD hS 0 (T := TX8) (N := 48) (ci := 8) rfl rfl [0, 15] rfl (by decide) rfl rfl rfl rfl rfl rfl hl.1 (Nat.le_of_ble_eq_true rfl) dX8_compound_136 ⟨Nat.zero_le _, Nat.zero_le _⟩ (fun H locs hP hD hS => ?_)
          refine lv_aload_n hx hb dX8_compound_139 rfl (lv_at hl 0 rfl) ?_
          refine lv_bipush (v := 113) hx hb dX8_compound_140 (by decide) ?_
          refine lv_bipush (v := 50) hx hb dX8_compound_142 (by decide) ?_
          obtain ⟨r25, hcr25, hM⟩ := ob_use hM
          refine cl_V (As := [.int 113, .int 50]) (rest := []) (wM0 ad o_X o_L o_N r23 r25 o_O o_E o_Q o_V o_I ++ wMC cI ad o_C ++ wMX cI ad o_X ++ wMN cI ad o_N ++ wMT cI ad r23 ++ wMU cI ad r25) [] ⟨hx, hb, hml, hown, hts⟩ (c_Model_push2 l D cI sd ad o_C o_X o_L o_N r23 o_O o_E o_Q o_V o_I r24 113 50 r25 hcr25) (cwV2 hts q1257 mvX8_push2 rfl rfl ⟨(Nat.le_of_ble_eq_true rfl), (Nat.le_of_ble_eq_true rfl)⟩) hK hE hA hP hD hS 0 (T := TX8) (N := 48) (ci := 8) rfl rfl [0, 15] rfl (by decide) rfl rfl rfl rfl rfl rfl hl.1 (Nat.le_of_ble_eq_true rfl) dX8_compound_144 ⟨Nat.zero_le _, Nat.zero_le _⟩ (fun H locs hP hD hS => ?_)
          refine lv_aload_n hx hb dX8_compound_147 rfl (lv_at hl 0 rfl) ?_
          refine lv_bipush (v := 105) hx hb dX8_compound_148 (by decide) ?_
          obtain ⟨r26, hcr26, hM⟩ := ob_use hM
          refine cl_V (As := [.int 105]) (rest := []) (wM0 ad o_X o_L o_N r23 r26 o_O o_E o_Q o_V o_I ++ wMC cI ad o_C ++ wMX cI ad o_X ++ wMN cI ad o_N ++ wMT cI ad r23 ++ wMU cI ad r26) [] ⟨hx, hb, hml, hown, hts⟩ (c_Model_push l D cI sd ad o_C o_X o_L o_N r23 o_O o_E o_Q o_V o_I r25 105 r26 hcr26) (cwV2 hts q1147 mvX8_push rfl rfl ⟨(Nat.le_of_ble_eq_true rfl), (Nat.le_of_ble_eq_true rfl)⟩) hK hE hA hP hD hS 0 (T := TX8) (N := 48) (ci := 8) rfl rfl [0, 15] rfl (by decide) rfl rfl rfl rfl rfl rfl hl.1 (Nat.le_of_ble_eq_true rfl) dX8_compound_150 ⟨Nat.zero_le _, Nat.zero_le _⟩ (fun H locs hP hD hS => ?_)
          refine lv_aload_n hx hb dX8_compound_153 rfl (lv_at hl 0 rfl) ?_
          obtain ⟨r27, hcr27, hM⟩ := ob_use hM
          refine cl_V (As := []) (rest := []) (wM0 ad o_X r27.1 r27.2 r23 r26 o_O o_E o_Q o_V o_I ++ wMC cI ad o_C ++ wMX cI ad o_X ++ wMN cI ad r27.2 ++ wMT cI ad r23 ++ wMU cI ad r26) [] ⟨hx, hb, hml, hown, hts⟩ (c_Model_step l D cI sd ad r23 r26 o_O o_E o_Q o_V o_I o_C o_X o_L o_N r27 hcr27) (cwV2 hts q1151 mvX8_step rfl rfl ⟨(Nat.le_of_ble_eq_true rfl), (Nat.le_of_ble_eq_true rfl)⟩) hK hE hA hP hD hS 0 (T := TX8) (N := 48) (ci := 8) rfl rfl [0, 1, 2, 3, 4, 5, 6, 7] rfl (by decide) rfl rfl rfl rfl rfl rfl hl.1 (Nat.le_of_ble_eq_true rfl) dX8_compound_154 ⟨Nat.zero_le _, Nat.zero_le _⟩ (fun H locs hP hD hS => ?_)
          cases hM
          exact rt_v hx hb hr hlk hP hD hS rfl dX8_compound_157
        · replace hM := if_t c22 hM
          refine lv_aload_n hx hb dX8_compound_84 rfl (lv_at hl 0 rfl) ?_
          refine lv_bipush (v := 16) hx hb dX8_compound_85 (by decide) ?_
          refine lv_aload_n hx hb dX8_compound_87 rfl (lv_at hl 0 rfl) ?_
          refine va_get (D := D) (ci := 8) (v := .int o_L.1) (C := RX8) (T := TX8) (N := 48) hx hb hts layX8 hown hK hP 0 rfl rfl 6 (by decide) (hts _ (inA q984)) (fun _ h9 => h9) rfl dX8_compound_88 ?_
          refine lv_iconst (v := 0) hx hb dX8_compound_91 (by decide) ?_
          obtain ⟨r28, hcr28, hM⟩ := ob_use hM
          refine cl_V (As := [.int 16, .int o_L.1, .int 0]) (rest := []) (wM0 ad o_X o_L o_N r28 r20 o_O o_E o_Q o_V o_I ++ wMC cI ad o_C ++ wMX cI ad o_X ++ wMN cI ad o_N ++ wMT cI ad r28 ++ wMU cI ad r20) [] ⟨hx, hb, hml, hown, hts⟩ (c_Model_down l D cI sd ad o_C o_X o_L o_N r20 o_O o_E o_Q o_V o_I o_T 16 o_L.1 0 r28 hcr28) (cwV2 hts q1245 mvX8_down rfl rfl ⟨(Nat.le_of_ble_eq_true rfl), (Nat.le_of_ble_eq_true rfl)⟩) hK hE hA hP hD hS 0 (T := TX8) (N := 48) (ci := 8) rfl rfl [0, 8, 9, 10, 11, 12, 13, 14] rfl (by decide) rfl rfl rfl rfl rfl rfl hl.1 (Nat.le_of_ble_eq_true rfl) dX8_compound_92 ⟨Nat.zero_le _, Nat.zero_le _⟩ (fun H locs hP hD hS => ?_)
          refine lv_aload_n hx hb dX8_compound_95 rfl (lv_at hl 0 rfl) ?_
          refine lv_bipush (v := 120) hx hb dX8_compound_96 (by decide) ?_
          refine lv_bipush (v := 121) hx hb dX8_compound_98 (by decide) ?_
          obtain ⟨r29, hcr29, hM⟩ := ob_use hM
          refine cl_V (As := [.int 120, .int 121]) (rest := []) (wM0 ad o_X o_L o_N r28 r29 o_O o_E o_Q o_V o_I ++ wMC cI ad o_C ++ wMX cI ad o_X ++ wMN cI ad o_N ++ wMT cI ad r28 ++ wMU cI ad r29) [] ⟨hx, hb, hml, hown, hts⟩ (c_Model_push2 l D cI sd ad o_C o_X o_L o_N r28 o_O o_E o_Q o_V o_I r20 120 121 r29 hcr29) (cwV2 hts q1257 mvX8_push2 rfl rfl ⟨(Nat.le_of_ble_eq_true rfl), (Nat.le_of_ble_eq_true rfl)⟩) hK hE hA hP hD hS 0 (T := TX8) (N := 48) (ci := 8) rfl rfl [0, 15] rfl (by decide) rfl rfl rfl rfl rfl rfl hl.1 (Nat.le_of_ble_eq_true rfl) dX8_compound_100 ⟨Nat.zero_le _, Nat.zero_le _⟩ (fun H locs hP hD hS => ?_)
          refine lv_aload_n hx hb dX8_compound_103 rfl (lv_at hl 0 rfl) ?_
          refine lv_bipush (v := 15) hx hb dX8_compound_104 (by decide) ?_
          obtain ⟨r30, hcr30, hM⟩ := ob_use hM
          refine cl_V (As := [.int 15]) (rest := []) (wM0 ad o_X o_L o_N r28 r30 o_O o_E o_Q o_V o_I ++ wMC cI ad o_C ++ wMX cI ad o_X ++ wMN cI ad o_N ++ wMT cI ad r28 ++ wMU cI ad r30) [] ⟨hx, hb, hml, hown, hts⟩ (c_Model_push l D cI sd ad o_C o_X o_L o_N r28 o_O o_E o_Q o_V o_I r29 15 r30 hcr30) (cwV2 hts q1147 mvX8_push rfl rfl ⟨(Nat.le_of_ble_eq_true rfl), (Nat.le_of_ble_eq_true rfl)⟩) hK hE hA hP hD hS 0 (T := TX8) (N := 48) (ci := 8) rfl rfl [0, 15] rfl (by decide) rfl rfl rfl rfl rfl rfl hl.1 (Nat.le_of_ble_eq_true rfl) dX8_compound_106 ⟨Nat.zero_le _, Nat.zero_le _⟩ (fun H locs hP hD hS => ?_)
          refine lv_aload_n hx hb dX8_compound_109 rfl (lv_at hl 0 rfl) ?_
          obtain ⟨r31, hcr31, hM⟩ := ob_use hM
          refine cl_V (As := []) (rest := []) (wM0 ad o_X o_L o_N r28 r31 o_O o_E o_Q o_V o_I ++ wMC cI ad o_C ++ wMX cI ad o_X ++ wMN cI ad o_N ++ wMT cI ad r28 ++ wMU cI ad r31) [] ⟨hx, hb, hml, hown, hts⟩ (c_Model_pushExpression l D cI sd ad o_C o_X o_L o_N r28 o_O o_E o_Q o_V o_I r30 r31 hcr31) (cwV2 hts q1329 mvX8_pushExpression rfl rfl ⟨(Nat.le_of_ble_eq_true rfl), (Nat.le_of_ble_eq_true rfl)⟩) hK hE hA hP hD hS 0 (T := TX8) (N := 48) (ci := 8) rfl rfl [0, 15] rfl (by decide) rfl rfl rfl rfl rfl rfl hl.1 (Nat.le_of_ble_eq_true rfl) dX8_compound_110 ⟨Nat.zero_le _, Nat.zero_le _⟩ (fun H locs hP hD hS => ?_)
          refine lv_goto (tgt := 153) hx hb dX8_compound_113 (by decide) ?_
          refine lv_aload_n hx hb dX8_compound_153 rfl (lv_at hl 0 rfl) ?_
          obtain ⟨r32, hcr32, hM⟩ := ob_use hM
          refine cl_V (As := []) (rest := []) (wM0 ad o_X r32.1 r32.2 r28 r31 o_O o_E o_Q o_V o_I ++ wMC cI ad o_C ++ wMX cI ad o_X ++ wMN cI ad r32.2 ++ wMT cI ad r28 ++ wMU cI ad r31) [] ⟨hx, hb, hml, hown, hts⟩ (c_Model_step l D cI sd ad r28 r31 o_O o_E o_Q o_V o_I o_C o_X o_L o_N r32 hcr32) (cwV2 hts q1151 mvX8_step rfl rfl ⟨(Nat.le_of_ble_eq_true rfl), (Nat.le_of_ble_eq_true rfl)⟩) hK hE hA hP hD hS 0 (T := TX8) (N := 48) (ci := 8) rfl rfl [0, 1, 2, 3, 4, 5, 6, 7] rfl (by decide) rfl rfl rfl rfl rfl rfl hl.1 (Nat.le_of_ble_eq_true rfl) dX8_compound_154 ⟨Nat.zero_le _, Nat.zero_le _⟩ (fun H locs hP hD hS => ?_)
          cases hM
          exact rt_v hx hb hr hlk hP hD hS rfl dX8_compound_157
      · replace hM := if_t c21 hM
        refine lv_aload_n hx hb dX8_compound_49 rfl (lv_at hl 0 rfl) ?_
        refine lv_bipush (v := 15) hx hb dX8_compound_50 (by decide) ?_
        refine lv_aload_n hx hb dX8_compound_52 rfl (lv_at hl 0 rfl) ?_
        refine va_get (D := D) (ci := 8) (v := .int o_L.1) (C := RX8) (T := TX8) (N := 48) hx hb hts layX8 hown hK hP 0 rfl rfl 6 (by decide) (hts _ (inA q984)) (fun _ h9 => h9) rfl dX8_compound_53 ?_
        refine lv_iconst (v := 0) hx hb dX8_compound_56 (by decide) ?_
        obtain ⟨r33, hcr33, hM⟩ := ob_use hM
        refine cl_V (As := [.int 15, .int o_L.1, .int 0]) (rest := []) (wM0 ad o_X o_L o_N r33 r20 o_O o_E o_Q o_V o_I ++ wMC cI ad o_C ++ wMX cI ad o_X ++ wMN cI ad o_N ++ wMT cI ad r33 ++ wMU cI ad r20) [] ⟨hx, hb, hml, hown, hts⟩ (c_Model_down l D cI sd ad o_C o_X o_L o_N r20 o_O o_E o_Q o_V o_I o_T 15 o_L.1 0 r33 hcr33) (cwV2 hts q1245 mvX8_down rfl rfl ⟨(Nat.le_of_ble_eq_true rfl), (Nat.le_of_ble_eq_true rfl)⟩) hK hE hA hP hD hS 0 (T := TX8) (N := 48) (ci := 8) rfl rfl [0, 8, 9, 10, 11, 12, 13, 14] rfl (by decide) rfl rfl rfl rfl rfl rfl hl.1 (Nat.le_of_ble_eq_true rfl) dX8_compound_57 ⟨Nat.zero_le _, Nat.zero_le _⟩ (fun H locs hP hD hS => ?_)
        refine lv_aload_n hx hb dX8_compound_60 rfl (lv_at hl 0 rfl) ?_
        refine lv_bipush (v := 117) hx hb dX8_compound_61 (by decide) ?_
        refine lv_bipush (v := 119) hx hb dX8_compound_63 (by decide) ?_
        obtain ⟨r34, hcr34, hM⟩ := ob_use hM
        refine cl_V (As := [.int 117, .int 119]) (rest := []) (wM0 ad o_X o_L o_N r33 r34 o_O o_E o_Q o_V o_I ++ wMC cI ad o_C ++ wMX cI ad o_X ++ wMN cI ad o_N ++ wMT cI ad r33 ++ wMU cI ad r34) [] ⟨hx, hb, hml, hown, hts⟩ (c_Model_push2 l D cI sd ad o_C o_X o_L o_N r33 o_O o_E o_Q o_V o_I r20 117 119 r34 hcr34) (cwV2 hts q1257 mvX8_push2 rfl rfl ⟨(Nat.le_of_ble_eq_true rfl), (Nat.le_of_ble_eq_true rfl)⟩) hK hE hA hP hD hS 0 (T := TX8) (N := 48) (ci := 8) rfl rfl [0, 15] rfl (by decide) rfl rfl rfl rfl rfl rfl hl.1 (Nat.le_of_ble_eq_true rfl) dX8_compound_65 ⟨Nat.zero_le _, Nat.zero_le _⟩ (fun H locs hP hD hS => ?_)
        refine lv_aload_n hx hb dX8_compound_68 rfl (lv_at hl 0 rfl) ?_
        obtain ⟨r35, hcr35, hM⟩ := ob_use hM
        refine cl_V (As := []) (rest := []) (wM0 ad o_X o_L o_N r33 r35 o_O o_E o_Q o_V o_I ++ wMC cI ad o_C ++ wMX cI ad o_X ++ wMN cI ad o_N ++ wMT cI ad r33 ++ wMU cI ad r35) [] ⟨hx, hb, hml, hown, hts⟩ (c_Model_pushExpression l D cI sd ad o_C o_X o_L o_N r33 o_O o_E o_Q o_V o_I r34 r35 hcr35) (cwV2 hts q1329 mvX8_pushExpression rfl rfl ⟨(Nat.le_of_ble_eq_true rfl), (Nat.le_of_ble_eq_true rfl)⟩) hK hE hA hP hD hS 0 (T := TX8) (N := 48) (ci := 8) rfl rfl [0, 15] rfl (by decide) rfl rfl rfl rfl rfl rfl hl.1 (Nat.le_of_ble_eq_true rfl) dX8_compound_69 ⟨Nat.zero_le _, Nat.zero_le _⟩ (fun H locs hP hD hS => ?_)
        refine lv_goto (tgt := 153) hx hb dX8_compound_72 (by decide) ?_
        refine lv_aload_n hx hb dX8_compound_153 rfl (lv_at hl 0 rfl) ?_
        obtain ⟨r36, hcr36, hM⟩ := ob_use hM
        refine cl_V (As := []) (rest := []) (wM0 ad o_X r36.1 r36.2 r33 r35 o_O o_E o_Q o_V o_I ++ wMC cI ad o_C ++ wMX cI ad o_X ++ wMN cI ad r36.2 ++ wMT cI ad r33 ++ wMU cI ad r35) [] ⟨hx, hb, hml, hown, hts⟩ (c_Model_step l D cI sd ad r33 r35 o_O o_E o_Q o_V o_I o_C o_X o_L o_N r36 hcr36) (cwV2 hts q1151 mvX8_step rfl rfl ⟨(Nat.le_of_ble_eq_true rfl), (Nat.le_of_ble_eq_true rfl)⟩) hK hE hA hP hD hS 0 (T := TX8) (N := 48) (ci := 8) rfl rfl [0, 1, 2, 3, 4, 5, 6, 7] rfl (by decide) rfl rfl rfl rfl rfl rfl hl.1 (Nat.le_of_ble_eq_true rfl) dX8_compound_154 ⟨Nat.zero_le _, Nat.zero_le _⟩ (fun H locs hP hD hS => ?_)
        cases hM
        exact rt_v hx hb hr hlk hP hD hS rfl dX8_compound_157
  · replace hM := if_t c1 hM
    refine lv_bipush (v := 20) hx hb dX8_compound_16 (by decide) ?_
    refine lv_goto (tgt := 37) hx hb dX8_compound_18 (by decide) ?_
    obtain ⟨r37, hcr37, hM⟩ := ob_use hM
    refine cl_V (As := [.int 115, .int 118, .int 60, .int 20]) (rest := []) (wM0 ad o_X o_L o_N o_T r37 o_O o_E o_Q o_V o_I ++ wMC cI ad o_C ++ wMX cI ad o_X ++ wMN cI ad o_N ++ wMT cI ad o_T ++ wMU cI ad r37) [] ⟨hx, hb, hml, hown, hts⟩ (c_Model_push4 l D cI sd ad o_C o_X o_L o_N o_T o_O o_E o_Q o_V o_I o_U 115 118 60 20 r37 hcr37) (cwV2 hts q1253 mvX8_push4 rfl rfl ⟨(Nat.le_of_ble_eq_true rfl), (Nat.le_of_ble_eq_true rfl)⟩) hK hE hA hP hD hS 0 (T := TX8) (N := 48) (ci := 8) rfl rfl [0, 15] rfl (by decide) rfl rfl rfl rfl rfl rfl hl.1 (Nat.le_of_ble_eq_true rfl) dX8_compound_37 ⟨Nat.zero_le _, Nat.zero_le _⟩ (fun H locs hP hD hS => ?_)
    refine lv_aload_n hx hb dX8_compound_40 rfl (lv_at hl 0 rfl) ?_
    refine va_get (D := D) (ci := 8) (v := .int o_L.2.1) (C := RX8) (T := TX8) (N := 48) hx hb hts layX8 hown hK hP 0 rfl rfl 7 (by decide) (hts _ (inA q985)) (fun _ h9 => h9) rfl dX8_compound_41 ?_
    refine lv_bipush (v := 16) hx hb dX8_compound_44 (by decide) ?_
    refine lv_icmp_ne (tgt := 75) hx hb dX8_compound_46 (by decide) (fun c38 => ?_) (fun c38 => ?_)
    · replace hM := if_f c38 hM
      refine lv_aload_n hx hb dX8_compound_75 rfl (lv_at hl 0 rfl) ?_
      refine va_get (D := D) (ci := 8) (v := .int o_L.2.1) (C := RX8) (T := TX8) (N := 48) hx hb hts layX8 hown hK hP 0 rfl rfl 7 (by decide) (hts _ (inA q985)) (fun _ h9 => h9) rfl dX8_compound_76 ?_
      refine lv_bipush (v := 21) hx hb dX8_compound_79 (by decide) ?_
      refine lv_icmp_ne (tgt := 116) hx hb dX8_compound_81 (by decide) (fun c39 => ?_) (fun c39 => ?_)
      · replace hM := if_f c39 hM
        refine lv_aload_n hx hb dX8_compound_116 rfl (lv_at hl 0 rfl) ?_
        refine lv_bipush (v := 19) hx hb dX8_compound_117 (by decide) ?_
        refine lv_aload_n hx hb dX8_compound_119 rfl (lv_at hl 0 rfl) ?_
        refine va_get (D := D) (ci := 8) (v := .int o_L.1) (C := RX8) (T := TX8) (N := 48) hx hb hts layX8 hown hK hP 0 rfl rfl 6 (by decide) (hts _ (inA q984)) (fun _ h9 => h9) rfl dX8_compound_120 ?_
        refine lv_iconst (v := 0) hx hb dX8_compound_123 (by decide) ?_
        obtain ⟨r40, hcr40, hM⟩ := ob_use hM
        refine cl_V (As := [.int 19, .int o_L.1, .int 0]) (rest := []) (wM0 ad o_X o_L o_N r40 r37 o_O o_E o_Q o_V o_I ++ wMC cI ad o_C ++ wMX cI ad o_X ++ wMN cI ad o_N ++ wMT cI ad r40 ++ wMU cI ad r37) [] ⟨hx, hb, hml, hown, hts⟩ (c_Model_down l D cI sd ad o_C o_X o_L o_N r37 o_O o_E o_Q o_V o_I o_T 19 o_L.1 0 r40 hcr40) (cwV2 hts q1245 mvX8_down rfl rfl ⟨(Nat.le_of_ble_eq_true rfl), (Nat.le_of_ble_eq_true rfl)⟩) hK hE hA hP hD hS 0 (T := TX8) (N := 48) (ci := 8) rfl rfl [0, 8, 9, 10, 11, 12, 13, 14] rfl (by decide) rfl rfl rfl rfl rfl rfl hl.1 (Nat.le_of_ble_eq_true rfl) dX8_compound_124 ⟨Nat.zero_le _, Nat.zero_le _⟩ (fun H locs hP hD hS => ?_)
        refine lv_aload_n hx hb dX8_compound_127 rfl (lv_at hl 0 rfl) ?_
        refine lv_bipush (v := 126) hx hb dX8_compound_128 (by decide) ?_
        refine lv_bipush (v := 127) hx hb dX8_compound_130 (by decide) ?_
        refine lv_bipush (v := 113) hx hb dX8_compound_132 (by decide) ?_
        refine lv_bipush (v := 24) hx hb dX8_compound_134 (by decide) ?_
        obtain ⟨r41, hcr41, hM⟩ := ob_use hM
        refine cl_V (As := [.int 126, .int 127, .int 113, .int 24]) (rest := []) (wM0 ad o_X o_L o_N r40 r41 o_O o_E o_Q o_V o_I ++ wMC cI ad o_C ++ wMX cI ad o_X ++ wMN cI ad o_N ++ wMT cI ad r40 ++ wMU cI ad r41) [] ⟨hx, hb, hml, hown, hts⟩ (c_Model_push4 l D cI sd ad o_C o_X o_L o_N r40 o_O o_E o_Q o_V o_I r37 126 127 113 24 r41 hcr41) (cwV2 hts q1253 mvX8_push4 rfl rfl ⟨(Nat.le_of_ble_eq_true rfl), (Nat.le_of_ble_eq_true rfl)⟩) hK hE hA hP hD hS 0 (T := TX8) (N := 48) (ci := 8) rfl rfl [0, 15] rfl (by decide) rfl rfl rfl rfl rfl rfl hl.1 (Nat.le_of_ble_eq_true rfl) dX8_compound_136 ⟨Nat.zero_le _, Nat.zero_le _⟩ (fun H locs hP hD hS => ?_)
        refine lv_aload_n hx hb dX8_compound_139 rfl (lv_at hl 0 rfl) ?_
        refine lv_bipush (v := 113) hx hb dX8_compound_140 (by decide) ?_
        refine lv_bipush (v := 50) hx hb dX8_compound_142 (by decide) ?_
        obtain ⟨r42, hcr42, hM⟩ := ob_use hM
        refine cl_V (As := [.int 113, .int 50]) (rest := []) (wM0 ad o_X o_L o_N r40 r42 o_O o_E o_Q o_V o_I ++ wMC cI ad o_C ++ wMX cI ad o_X ++ wMN cI ad o_N ++ wMT cI ad r40 ++ wMU cI ad r42) [] ⟨hx, hb, hml, hown, hts⟩ (c_Model_push2 l D cI sd ad o_C o_X o_L o_N r40 o_O o_E o_Q o_V o_I r41 113 50 r42 hcr42) (cwV2 hts q1257 mvX8_push2 rfl rfl ⟨(Nat.le_of_ble_eq_true rfl), (Nat.le_of_ble_eq_true rfl)⟩) hK hE hA hP hD hS 0 (T := TX8) (N := 48) (ci := 8) rfl rfl [0, 15] rfl (by decide) rfl rfl rfl rfl rfl rfl hl.1 (Nat.le_of_ble_eq_true rfl) dX8_compound_144 ⟨Nat.zero_le _, Nat.zero_le _⟩ (fun H locs hP hD hS => ?_)
        refine lv_aload_n hx hb dX8_compound_147 rfl (lv_at hl 0 rfl) ?_
        refine lv_bipush (v := 105) hx hb dX8_compound_148 (by decide) ?_
        obtain ⟨r43, hcr43, hM⟩ := ob_use hM
        refine cl_V (As := [.int 105]) (rest := []) (wM0 ad o_X o_L o_N r40 r43 o_O o_E o_Q o_V o_I ++ wMC cI ad o_C ++ wMX cI ad o_X ++ wMN cI ad o_N ++ wMT cI ad r40 ++ wMU cI ad r43) [] ⟨hx, hb, hml, hown, hts⟩ (c_Model_push l D cI sd ad o_C o_X o_L o_N r40 o_O o_E o_Q o_V o_I r42 105 r43 hcr43) (cwV2 hts q1147 mvX8_push rfl rfl ⟨(Nat.le_of_ble_eq_true rfl), (Nat.le_of_ble_eq_true rfl)⟩) hK hE hA hP hD hS 0 (T := TX8) (N := 48) (ci := 8) rfl rfl [0, 15] rfl (by decide) rfl rfl rfl rfl rfl rfl hl.1 (Nat.le_of_ble_eq_true rfl) dX8_compound_150 ⟨Nat.zero_le _, Nat.zero_le _⟩ (fun H locs hP hD hS => ?_)
        refine lv_aload_n hx hb dX8_compound_153 rfl (lv_at hl 0 rfl) ?_
        obtain ⟨r44, hcr44, hM⟩ := ob_use hM
        refine cl_V (As := []) (rest := []) (wM0 ad o_X r44.1 r44.2 r40 r43 o_O o_E o_Q o_V o_I ++ wMC cI ad o_C ++ wMX cI ad o_X ++ wMN cI ad r44.2 ++ wMT cI ad r40 ++ wMU cI ad r43) [] ⟨hx, hb, hml, hown, hts⟩ (c_Model_step l D cI sd ad r40 r43 o_O o_E o_Q o_V o_I o_C o_X o_L o_N r44 hcr44) (cwV2 hts q1151 mvX8_step rfl rfl ⟨(Nat.le_of_ble_eq_true rfl), (Nat.le_of_ble_eq_true rfl)⟩) hK hE hA hP hD hS 0 (T := TX8) (N := 48) (ci := 8) rfl rfl [0, 1, 2, 3, 4, 5, 6, 7] rfl (by decide) rfl rfl rfl rfl rfl rfl hl.1 (Nat.le_of_ble_eq_true rfl) dX8_compound_154 ⟨Nat.zero_le _, Nat.zero_le _⟩ (fun H locs hP hD hS => ?_)
        cases hM
        exact rt_v hx hb hr hlk hP hD hS rfl dX8_compound_157
      · replace hM := if_t c39 hM
        refine lv_aload_n hx hb dX8_compound_84 rfl (lv_at hl 0 rfl) ?_
        refine lv_bipush (v := 16) hx hb dX8_compound_85 (by decide) ?_
        refine lv_aload_n hx hb dX8_compound_87 rfl (lv_at hl 0 rfl) ?_
        refine va_get (D := D) (ci := 8) (v := .int o_L.1) (C := RX8) (T := TX8) (N := 48) hx hb hts layX8 hown hK hP 0 rfl rfl 6 (by decide) (hts _ (inA q984)) (fun _ h9 => h9) rfl dX8_compound_88 ?_
        refine lv_iconst (v := 0) hx hb dX8_compound_91 (by decide) ?_
        obtain ⟨r45, hcr45, hM⟩ := ob_use hM
        refine cl_V (As := [.int 16, .int o_L.1, .int 0]) (rest := []) (wM0 ad o_X o_L o_N r45 r37 o_O o_E o_Q o_V o_I ++ wMC cI ad o_C ++ wMX cI ad o_X ++ wMN cI ad o_N ++ wMT cI ad r45 ++ wMU cI ad r37) [] ⟨hx, hb, hml, hown, hts⟩ (c_Model_down l D cI sd ad o_C o_X o_L o_N r37 o_O o_E o_Q o_V o_I o_T 16 o_L.1 0 r45 hcr45) (cwV2 hts q1245 mvX8_down rfl rfl ⟨(Nat.le_of_ble_eq_true rfl), (Nat.le_of_ble_eq_true rfl)⟩) hK hE hA hP hD hS 0 (T := TX8) (N := 48) (ci := 8) rfl rfl [0, 8, 9, 10, 11, 12, 13, 14] rfl (by decide) rfl rfl rfl rfl rfl rfl hl.1 (Nat.le_of_ble_eq_true rfl) dX8_compound_92 ⟨Nat.zero_le _, Nat.zero_le _⟩ (fun H locs hP hD hS => ?_)
        refine lv_aload_n hx hb dX8_compound_95 rfl (lv_at hl 0 rfl) ?_
        refine lv_bipush (v := 120) hx hb dX8_compound_96 (by decide) ?_
        refine lv_bipush (v := 121) hx hb dX8_compound_98 (by decide) ?_
        obtain ⟨r46, hcr46, hM⟩ := ob_use hM
        refine cl_V (As := [.int 120, .int 121]) (rest := []) (wM0 ad o_X o_L o_N r45 r46 o_O o_E o_Q o_V o_I ++ wMC cI ad o_C ++ wMX cI ad o_X ++ wMN cI ad o_N ++ wMT cI ad r45 ++ wMU cI ad r46) [] ⟨hx, hb, hml, hown, hts⟩ (c_Model_push2 l D cI sd ad o_C o_X o_L o_N r45 o_O o_E o_Q o_V o_I r37 120 121 r46 hcr46) (cwV2 hts q1257 mvX8_push2 rfl rfl ⟨(Nat.le_of_ble_eq_true rfl), (Nat.le_of_ble_eq_true rfl)⟩) hK hE hA hP hD hS 0 (T := TX8) (N := 48) (ci := 8) rfl rfl [0, 15] rfl (by decide) rfl rfl rfl rfl rfl rfl hl.1 (Nat.le_of_ble_eq_true rfl) dX8_compound_100 ⟨Nat.zero_le _, Nat.zero_le _⟩ (fun H locs hP hD hS => ?_)
        refine lv_aload_n hx hb dX8_compound_103 rfl (lv_at hl 0 rfl) ?_
        refine lv_bipush (v := 15) hx hb dX8_compound_104 (by decide) ?_
        obtain ⟨r47, hcr47, hM⟩ := ob_use hM
        refine cl_V (As := [.int 15]) (rest := []) (wM0 ad o_X o_L o_N r45 r47 o_O o_E o_Q o_V o_I ++ wMC cI ad o_C ++ wMX cI ad o_X ++ wMN cI ad o_N ++ wMT cI ad r45 ++ wMU cI ad r47) [] ⟨hx, hb, hml, hown, hts⟩ (c_Model_push l D cI sd ad o_C o_X o_L o_N r45 o_O o_E o_Q o_V o_I r46 15 r47 hcr47) (cwV2 hts q1147 mvX8_push rfl rfl ⟨(Nat.le_of_ble_eq_true rfl), (Nat.le_of_ble_eq_true rfl)⟩) hK hE hA hP hD hS 0 (T := TX8) (N := 48) (ci := 8) rfl rfl [0, 15] rfl (by decide) rfl rfl rfl rfl rfl rfl hl.1 (Nat.le_of_ble_eq_true rfl) dX8_compound_106 ⟨Nat.zero_le _, Nat.zero_le _⟩ (fun H locs hP hD hS => ?_)
        refine lv_aload_n hx hb dX8_compound_109 rfl (lv_at hl 0 rfl) ?_
        obtain ⟨r48, hcr48, hM⟩ := ob_use hM
        refine cl_V (As := []) (rest := []) (wM0 ad o_X o_L o_N r45 r48 o_O o_E o_Q o_V o_I ++ wMC cI ad o_C ++ wMX cI ad o_X ++ wMN cI ad o_N ++ wMT cI ad r45 ++ wMU cI ad r48) [] ⟨hx, hb, hml, hown, hts⟩ (c_Model_pushExpression l D cI sd ad o_C o_X o_L o_N r45 o_O o_E o_Q o_V o_I r47 r48 hcr48) (cwV2 hts q1329 mvX8_pushExpression rfl rfl ⟨(Nat.le_of_ble_eq_true rfl), (Nat.le_of_ble_eq_true rfl)⟩) hK hE hA hP hD hS 0 (T := TX8) (N := 48) (ci := 8) rfl rfl [0, 15] rfl (by decide) rfl rfl rfl rfl rfl rfl hl.1 (Nat.le_of_ble_eq_true rfl) dX8_compound_110 ⟨Nat.zero_le _, Nat.zero_le _⟩ (fun H locs hP hD hS => ?_)
        refine lv_goto (tgt := 153) hx hb dX8_compound_113 (by decide) ?_
        refine lv_aload_n hx hb dX8_compound_153 rfl (lv_at hl 0 rfl) ?_
        obtain ⟨r49, hcr49, hM⟩ := ob_use hM
        refine cl_V (As := []) (rest := []) (wM0 ad o_X r49.1 r49.2 r45 r48 o_O o_E o_Q o_V o_I ++ wMC cI ad o_C ++ wMX cI ad o_X ++ wMN cI ad r49.2 ++ wMT cI ad r45 ++ wMU cI ad r48) [] ⟨hx, hb, hml, hown, hts⟩ (c_Model_step l D cI sd ad r45 r48 o_O o_E o_Q o_V o_I o_C o_X o_L o_N r49 hcr49) (cwV2 hts q1151 mvX8_step rfl rfl ⟨(Nat.le_of_ble_eq_true rfl), (Nat.le_of_ble_eq_true rfl)⟩) hK hE hA hP hD hS 0 (T := TX8) (N := 48) (ci := 8) rfl rfl [0, 1, 2, 3, 4, 5, 6, 7] rfl (by decide) rfl rfl rfl rfl rfl rfl hl.1 (Nat.le_of_ble_eq_true rfl) dX8_compound_154 ⟨Nat.zero_le _, Nat.zero_le _⟩ (fun H locs hP hD hS => ?_)
        cases hM
        exact rt_v hx hb hr hlk hP hD hS rfl dX8_compound_157
    · replace hM := if_t c38 hM
      refine lv_aload_n hx hb dX8_compound_49 rfl (lv_at hl 0 rfl) ?_
      refine lv_bipush (v := 15) hx hb dX8_compound_50 (by decide) ?_
      refine lv_aload_n hx hb dX8_compound_52 rfl (lv_at hl 0 rfl) ?_
      refine va_get (D := D) (ci := 8) (v := .int o_L.1) (C := RX8) (T := TX8) (N := 48) hx hb hts layX8 hown hK hP 0 rfl rfl 6 (by decide) (hts _ (inA q984)) (fun _ h9 => h9) rfl dX8_compound_53 ?_
      refine lv_iconst (v := 0) hx hb dX8_compound_56 (by decide) ?_
      obtain ⟨r50, hcr50, hM⟩ := ob_use hM
      refine cl_V (As := [.int 15, .int o_L.1, .int 0]) (rest := []) (wM0 ad o_X o_L o_N r50 r37 o_O o_E o_Q o_V o_I ++ wMC cI ad o_C ++ wMX cI ad o_X ++ wMN cI ad o_N ++ wMT cI ad r50 ++ wMU cI ad r37) [] ⟨hx, hb, hml, hown, hts⟩ (c_Model_down l D cI sd ad o_C o_X o_L o_N r37 o_O o_E o_Q o_V o_I o_T 15 o_L.1 0 r50 hcr50) (cwV2 hts q1245 mvX8_down rfl rfl ⟨(Nat.le_of_ble_eq_true rfl), (Nat.le_of_ble_eq_true rfl)⟩) hK hE hA hP hD hS 0 (T := TX8) (N := 48) (ci := 8) rfl rfl [0, 8, 9, 10, 11, 12, 13, 14] rfl (by decide) rfl rfl rfl rfl rfl rfl hl.1 (Nat.le_of_ble_eq_true rfl) dX8_compound_57 ⟨Nat.zero_le _, Nat.zero_le _⟩ (fun H locs hP hD hS => ?_)
      refine lv_aload_n hx hb dX8_compound_60 rfl (lv_at hl 0 rfl) ?_
      refine lv_bipush (v := 117) hx hb dX8_compound_61 (by decide) ?_
      refine lv_bipush (v := 119) hx hb dX8_compound_63 (by decide) ?_
      obtain ⟨r51, hcr51, hM⟩ := ob_use hM
      refine cl_V (As := [.int 117, .int 119]) (rest := []) (wM0 ad o_X o_L o_N r50 r51 o_O o_E o_Q o_V o_I ++ wMC cI ad o_C ++ wMX cI ad o_X ++ wMN cI ad o_N ++ wMT cI ad r50 ++ wMU cI ad r51) [] ⟨hx, hb, hml, hown, hts⟩ (c_Model_push2 l D cI sd ad o_C o_X o_L o_N r50 o_O o_E o_Q o_V o_I r37 117 119 r51 hcr51) (cwV2 hts q1257 mvX8_push2 rfl rfl ⟨(Nat.le_of_ble_eq_true rfl), (Nat.le_of_ble_eq_true rfl)⟩) hK hE hA hP hD hS 0 (T := TX8) (N := 48) (ci := 8) rfl rfl [0, 15] rfl (by decide) rfl rfl rfl rfl rfl rfl hl.1 (Nat.le_of_ble_eq_true rfl) dX8_compound_65 ⟨Nat.zero_le _, Nat.zero_le _⟩ (fun H locs hP hD hS => ?_)
      refine lv_aload_n hx hb dX8_compound_68 rfl (lv_at hl 0 rfl) ?_
      obtain ⟨r52, hcr52, hM⟩ := ob_use hM
      refine cl_V (As := []) (rest := []) (wM0 ad o_X o_L o_N r50 r52 o_O o_E o_Q o_V o_I ++ wMC cI ad o_C ++ wMX cI ad o_X ++ wMN cI ad o_N ++ wMT cI ad r50 ++ wMU cI ad r52) [] ⟨hx, hb, hml, hown, hts⟩ (c_Model_pushExpression l D cI sd ad o_C o_X o_L o_N r50 o_O o_E o_Q o_V o_I r51 r52 hcr52) (cwV2 hts q1329 mvX8_pushExpression rfl rfl ⟨(Nat.le_of_ble_eq_true rfl), (Nat.le_of_ble_eq_true rfl)⟩) hK hE hA hP hD hS 0 (T := TX8) (N := 48) (ci := 8) rfl rfl [0, 15] rfl (by decide) rfl rfl rfl rfl rfl rfl hl.1 (Nat.le_of_ble_eq_true rfl) dX8_compound_69 ⟨Nat.zero_le _, Nat.zero_le _⟩ (fun H locs hP hD hS => ?_)
      refine lv_goto (tgt := 153) hx hb dX8_compound_72 (by decide) ?_
      refine lv_aload_n hx hb dX8_compound_153 rfl (lv_at hl 0 rfl) ?_
      obtain ⟨r53, hcr53, hM⟩ := ob_use hM
      refine cl_V (As := []) (rest := []) (wM0 ad o_X r53.1 r53.2 r50 r52 o_O o_E o_Q o_V o_I ++ wMC cI ad o_C ++ wMX cI ad o_X ++ wMN cI ad r53.2 ++ wMT cI ad r50 ++ wMU cI ad r52) [] ⟨hx, hb, hml, hown, hts⟩ (c_Model_step l D cI sd ad r50 r52 o_O o_E o_Q o_V o_I o_C o_X o_L o_N r53 hcr53) (cwV2 hts q1151 mvX8_step rfl rfl ⟨(Nat.le_of_ble_eq_true rfl), (Nat.le_of_ble_eq_true rfl)⟩) hK hE hA hP hD hS 0 (T := TX8) (N := 48) (ci := 8) rfl rfl [0, 1, 2, 3, 4, 5, 6, 7] rfl (by decide) rfl rfl rfl rfl rfl rfl hl.1 (Nat.le_of_ble_eq_true rfl) dX8_compound_154 ⟨Nat.zero_le _, Nat.zero_le _⟩ (fun H locs hP hD hS => ?_)
      cases hM
      exact rt_v hx hb hr hlk hP hD hS rfl dX8_compound_157

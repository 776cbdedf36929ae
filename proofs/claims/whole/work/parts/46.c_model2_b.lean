set_option maxHeartbeats 4000000 in
set_option maxRecDepth 100000 in
theorem c_Model_readNumber (l : Launch) (D : va_G) (cI : ClassId) (sd : Nat → Nat) (ad : Nat → Nat) (o_C : S_MC) (o_N : S_MN) (o_T : S_MT) (o_U : S_MU) (o_O : S_MO) (o_E : S_ME) (o_Q : S_MQ) (o_V : S_MV) (o_I : S_MI) (o_X : S_MX) (o_L : S_ML) (a1 : Int32) (res : S_ML) (hM : f_Model_readNumber o_X o_L a1 = some res) : Ctr l D cI sd yX8_readNumber (wsM yX8_readNumber cX8_readNumber 7 (Option.none : Option Jvm.ClassFile.FieldType)) { frames := 3, cells := 0, slots := 0, locals := 65 } [.ref (ad 100), .int a1] (wM_XL cI ad o_X o_L o_N o_T o_U o_O o_E o_Q o_V o_I) (wM_XL cI ad o_X res o_N o_T o_U o_O o_E o_Q o_V o_I) none := by
  refine Ctr.of (cc := cX8_readNumber) (maxL := 7) (own := RX8) (by decide +kernel) rfl rfl (Nat.le_of_ble_eq_true rfl) ?_
  intro p e s m below meth c A ls hx hb hr hml hown hts hlk hK hE hA hP hD hS hl
  have hl : lv_has ls 7 [(0, .ref (ad 100)), (1, .int a1)] := hl
  unfold f_Model_readNumber at hM
  refine lv_aload_n hx hb dX8_readNumber_0 rfl (lv_at hl 0 rfl) ?_
  refine lv_iload_n hx hb dX8_readNumber_1 rfl (lv_at hl 1 rfl) ?_
  refine lv_if_eq (tgt := 14) hx hb dX8_readNumber_2 (by decide) (fun c1 => ?_) (fun c1 => ?_)
  · replace hM := if_t c1 hM
    refine lv_aload_n hx hb dX8_readNumber_14 rfl (lv_at hl 0 rfl) ?_
    refine va_get (D := D) (ci := 8) (v := .int o_L.1) (C := RX8) (T := TX8) (N := 48) hx hb hts layX8 hown hK hP 0 rfl rfl 6 (by decide) (hts _ (inA q984)) (fun _ h9 => h9) rfl dX8_readNumber_15 ?_
    refine va_put (D := D) (ci := 8) (v := .int o_L.1) (ty := .int) (C := RX8) (T := TX8) (N := 48) hx hb hts layX8 tyX8 tyX8_ok nmX8 hown hK hP hD hS 0 rfl rfl 9 (by decide) (hts _ (inA q987)) (fun _ h9 => h9) rfl (by decide +kernel) rfl rfl (Nat.le_of_ble_eq_true rfl) dX8_readNumber_18 (fun H locs hP hD hS => ?_)
    have hP : va_P D vwCl (wM_XL cI ad o_X (o_L.1, o_L.2.1, o_L.2.2.1, o_L.1, o_L.2.2.2.2) o_N o_T o_U o_O o_E o_Q o_V o_I) H := hP
    have hD : va_D A (wM_XL cI ad o_X (o_L.1, o_L.2.1, o_L.2.2.1, o_L.1, o_L.2.2.2.2) o_N o_T o_U o_O o_E o_Q o_V o_I) := hD
    refine lv_aload_n hx hb dX8_readNumber_21 rfl (lv_at hl 0 rfl) ?_
    refine lv_bipush (v := 10) hx hb dX8_readNumber_22 (by decide) ?_
    obtain ⟨r2, hcr2, hM⟩ := ob_use hM
    refine cl_V (As := [.int 10]) (rest := []) (wM_XL cI ad o_X r2.2 o_N o_T o_U o_O o_E o_Q o_V o_I) (.long r2.1 :: []) ⟨hx, hb, hml, hown, hts⟩ (c_Model_digits l D cI sd ad o_C o_N o_T o_U o_O o_E o_Q o_V o_I o_X (o_L.1, o_L.2.1, o_L.2.2.1, o_L.1, o_L.2.2.2.2) 10 r2 hcr2) (cwV2 hts q1171 mvX8_digits rfl rfl ⟨(Nat.le_of_ble_eq_true rfl), (Nat.le_of_ble_eq_true rfl)⟩) hK hE hA hP hD hS 0 (T := TX8) (N := 48) (ci := 8) rfl rfl [0, 1] rfl (by decide) rfl rfl rfl rfl rfl rfl hl.1 (Nat.le_of_ble_eq_true rfl) dX8_readNumber_24 ⟨Nat.zero_le _, Nat.zero_le _⟩ (fun H locs hP hD hS => ?_)
    refine lv_lstore_n (lv' := [(2, .long r2.1), (0, .ref (ad 100)), (1, .int a1)]) hx hb dX8_readNumber_27 rfl hl (by decide) rfl (fun ls hl => ?_)
    refine lv_lload_n hx hb dX8_readNumber_28 rfl (lv_at hl 0 rfl) ?_
    refine lv_lconst (v := 0) hx hb dX8_readNumber_29 (by decide) ?_
    refine W.lcmp hx hb dX8_readNumber_30 ?_
    refine lv_if_lt (tgt := 38) hx hb dX8_readNumber_31 (by decide) (fun c3 => ?_) (fun c3 => ?_)
    · replace hM := if_t c3 hM
      refine lv_iconst (v := 0) hx hb dX8_readNumber_38 (by decide) ?_
      refine lv_istore (lv' := [(4, .int 0), (2, .long r2.1), (0, .ref (ad 100)), (1, .int a1)]) hx hb dX8_readNumber_39 hl (by decide) rfl (fun ls hl => ?_)
      refine lv_iload_n hx hb dX8_readNumber_41 rfl (lv_at hl 3 rfl) ?_
      refine lv_if_eq (tgt := 78) hx hb dX8_readNumber_42 (by decide) (fun c4 => ?_) (fun c4 => ?_)
      · replace hM := if_t c4 hM
        refine lv_iload hx hb dX8_readNumber_78 (lv_at hl 0 rfl) ?_
        refine lv_if_eq (tgt := 163) hx hb dX8_readNumber_80 (by decide) (fun c5 => ?_) (fun c5 => False.elim (by revert c5; decide))
        refine lv_iload hx hb dX8_readNumber_163 (lv_at hl 0 rfl) ?_
        refine lv_if_eq (tgt := 187) hx hb dX8_readNumber_165 (by decide) (fun c6 => ?_) (fun c6 => False.elim (by revert c6; decide))
        refine lv_aload_n hx hb dX8_readNumber_187 rfl (lv_at hl 2 rfl) ?_
        refine lv_iconst (v := 4) hx hb dX8_readNumber_188 (by decide) ?_
        refine lv_aload_n hx hb dX8_readNumber_189 rfl (lv_at hl 2 rfl) ?_
        refine va_get (D := D) (ci := 8) (v := .int r2.2.1) (C := RX8) (T := TX8) (N := 48) hx hb hts layX8 hown hK hP 0 rfl rfl 6 (by decide) (hts _ (inA q984)) (fun _ h9 => h9) rfl dX8_readNumber_190 ?_
        obtain ⟨r7, hcr7, hM⟩ := ob_use hM
        refine cl_V (As := [.int 4, .int r2.2.1]) (rest := []) (wM_XL cI ad o_X r7 o_N o_T o_U o_O o_E o_Q o_V o_I) [] ⟨hx, hb, hml, hown, hts⟩ (c_Model_fail l D cI sd ad o_C o_X o_N o_T o_U o_O o_E o_Q o_V o_I r2.2 4 r2.2.1 r7 hcr7) (cwV2 hts q1163 mvX8_fail rfl rfl ⟨(Nat.le_of_ble_eq_true rfl), (Nat.le_of_ble_eq_true rfl)⟩) hK hE hA hP hD hS 0 (T := TX8) (N := 48) (ci := 8) rfl rfl [0] rfl (by decide) rfl rfl rfl rfl rfl rfl hl.1 (Nat.le_of_ble_eq_true rfl) dX8_readNumber_193 ⟨Nat.zero_le _, Nat.zero_le _⟩ (fun H locs hP hD hS => ?_)
        cases hM
        exact rt_v hx hb hr hlk hP hD hS rfl dX8_readNumber_196
      · replace hM := if_f c4 hM
        refine lv_iload hx hb dX8_readNumber_45 (lv_at hl 0 rfl) ?_
        refine lv_if_eq (tgt := 78) hx hb dX8_readNumber_47 (by decide) (fun c8 => ?_) (fun c8 => False.elim (by revert c8; decide))
        refine lv_iload hx hb dX8_readNumber_78 (lv_at hl 0 rfl) ?_
        refine lv_if_eq (tgt := 163) hx hb dX8_readNumber_80 (by decide) (fun c9 => ?_) (fun c9 => False.elim (by revert c9; decide))
        refine lv_iload hx hb dX8_readNumber_163 (lv_at hl 0 rfl) ?_
        refine lv_if_eq (tgt := 187) hx hb dX8_readNumber_165 (by decide) (fun c10 => ?_) (fun c10 => False.elim (by revert c10; decide))
        refine lv_aload_n hx hb dX8_readNumber_187 rfl (lv_at hl 2 rfl) ?_
        refine lv_iconst (v := 4) hx hb dX8_readNumber_188 (by decide) ?_
        refine lv_aload_n hx hb dX8_readNumber_189 rfl (lv_at hl 2 rfl) ?_
        refine va_get (D := D) (ci := 8) (v := .int r2.2.1) (C := RX8) (T := TX8) (N := 48) hx hb hts layX8 hown hK hP 0 rfl rfl 6 (by decide) (hts _ (inA q984)) (fun _ h9 => h9) rfl dX8_readNumber_190 ?_
        obtain ⟨r11, hcr11, hM⟩ := ob_use hM
        refine cl_V (As := [.int 4, .int r2.2.1]) (rest := []) (wM_XL cI ad o_X r11 o_N o_T o_U o_O o_E o_Q o_V o_I) [] ⟨hx, hb, hml, hown, hts⟩ (c_Model_fail l D cI sd ad o_C o_X o_N o_T o_U o_O o_E o_Q o_V o_I r2.2 4 r2.2.1 r11 hcr11) (cwV2 hts q1163 mvX8_fail rfl rfl ⟨(Nat.le_of_ble_eq_true rfl), (Nat.le_of_ble_eq_true rfl)⟩) hK hE hA hP hD hS 0 (T := TX8) (N := 48) (ci := 8) rfl rfl [0] rfl (by decide) rfl rfl rfl rfl rfl rfl hl.1 (Nat.le_of_ble_eq_true rfl) dX8_readNumber_193 ⟨Nat.zero_le _, Nat.zero_le _⟩ (fun H locs hP hD hS => ?_)
        cases hM
        exact rt_v hx hb hr hlk hP hD hS rfl dX8_readNumber_196
    · replace hM := if_f c3 hM
      refine lv_iconst (v := 1) hx hb dX8_readNumber_34 (by decide) ?_
      refine lv_goto (tgt := 39) hx hb dX8_readNumber_35 (by decide) ?_
      refine lv_istore (lv' := [(4, .int 1), (2, .long r2.1), (0, .ref (ad 100)), (1, .int a1)]) hx hb dX8_readNumber_39 hl (by decide) rfl (fun ls hl => ?_)
      refine lv_iload_n hx hb dX8_readNumber_41 rfl (lv_at hl 3 rfl) ?_
      refine lv_if_eq (tgt := 78) hx hb dX8_readNumber_42 (by decide) (fun c12 => ?_) (fun c12 => ?_)
      · replace hM := if_t c12 hM
        refine lv_iload hx hb dX8_readNumber_78 (lv_at hl 0 rfl) ?_
        refine lv_if_eq (tgt := 163) hx hb dX8_readNumber_80 (by decide) (fun c13 => False.elim (by revert c13; decide)) (fun c13 => ?_)
        refine lv_aload_n hx hb dX8_readNumber_83 rfl (lv_at hl 2 rfl) ?_
        refine lv_aload_n hx hb dX8_readNumber_84 rfl (lv_at hl 2 rfl) ?_
        refine va_get (D := D) (ci := 8) (v := .int r2.2.2.2.2.1) (C := RX8) (T := TX8) (N := 48) hx hb hts layX8 hown hK hP 0 rfl rfl 9 (by decide) (hts _ (inA q987)) (fun _ h9 => h9) rfl dX8_readNumber_85 ?_
        obtain ⟨r14, hcr14, hM⟩ := ob_use hM
        refine cl_V (As := [.int r2.2.2.2.2.1]) (rest := []) (wM_XL cI ad o_X r2.2 o_N o_T o_U o_O o_E o_Q o_V o_I) (.int r14 :: []) ⟨hx, hb, hml, hown, hts⟩ (c_Model_at l D cI sd ad o_C r2.2 o_N o_T o_U o_O o_E o_Q o_V o_I o_X r2.2.2.2.2.1 r14 hcr14) (cwV2 hts q1159 mvX8_at rfl rfl ⟨(Nat.le_of_ble_eq_true rfl), (Nat.le_of_ble_eq_true rfl)⟩) hK hE hA hP hD hS 0 (T := TX8) (N := 48) (ci := 8) rfl rfl [0, 1] rfl (by decide) rfl rfl rfl rfl rfl rfl hl.1 (Nat.le_of_ble_eq_true rfl) dX8_readNumber_88 ⟨Nat.zero_le _, Nat.zero_le _⟩ (fun H locs hP hD hS => ?_)
        refine lv_bipush (v := 35) hx hb dX8_readNumber_91 (by decide) ?_
        refine lv_icmp_ne (tgt := 163) hx hb dX8_readNumber_93 (by decide) (fun c15 => ?_) (fun c15 => ?_)
        · replace hM := if_f c15 hM
          refine lv_iload hx hb dX8_readNumber_163 (lv_at hl 0 rfl) ?_
          refine lv_if_eq (tgt := 187) hx hb dX8_readNumber_165 (by decide) (fun c16 => False.elim (by revert c16; decide)) (fun c16 => ?_)
          refine lv_aload_n hx hb dX8_readNumber_168 rfl (lv_at hl 2 rfl) ?_
          refine lv_aload_n hx hb dX8_readNumber_169 rfl (lv_at hl 2 rfl) ?_
          refine va_get (D := D) (ci := 8) (v := .int r2.2.2.2.2.1) (C := RX8) (T := TX8) (N := 48) hx hb hts layX8 hown hK hP 0 rfl rfl 9 (by decide) (hts _ (inA q987)) (fun _ h9 => h9) rfl dX8_readNumber_170 ?_
          obtain ⟨r17, hcr17, hM⟩ := ob_use hM
          refine cl_V (As := [.int r2.2.2.2.2.1]) (rest := []) (wM_XL cI ad o_X r2.2 o_N o_T o_U o_O o_E o_Q o_V o_I) (.int r17 :: []) ⟨hx, hb, hml, hown, hts⟩ (c_Model_goesOn l D cI sd ad o_C r2.2 o_N o_T o_U o_O o_E o_Q o_V o_I o_X r2.2.2.2.2.1 r17 hcr17) (cwV2 hts q1195 mvX8_goesOn rfl rfl ⟨(Nat.le_of_ble_eq_true rfl), (Nat.le_of_ble_eq_true rfl)⟩) hK hE hA hP hD hS 0 (T := TX8) (N := 48) (ci := 8) rfl rfl [0, 1] rfl (by decide) rfl rfl rfl rfl rfl rfl hl.1 (Nat.le_of_ble_eq_true rfl) dX8_readNumber_173 ⟨Nat.zero_le _, Nat.zero_le _⟩ (fun H locs hP hD hS => ?_)
          refine lv_if_ne (tgt := 187) hx hb dX8_readNumber_176 (by decide) (fun c18 => ?_) (fun c18 => ?_)
          · replace hM := if_f c18 hM
            refine lv_aload_n hx hb dX8_readNumber_187 rfl (lv_at hl 2 rfl) ?_
            refine lv_iconst (v := 4) hx hb dX8_readNumber_188 (by decide) ?_
            refine lv_aload_n hx hb dX8_readNumber_189 rfl (lv_at hl 2 rfl) ?_
            refine va_get (D := D) (ci := 8) (v := .int r2.2.1) (C := RX8) (T := TX8) (N := 48) hx hb hts layX8 hown hK hP 0 rfl rfl 6 (by decide) (hts _ (inA q984)) (fun _ h9 => h9) rfl dX8_readNumber_190 ?_
            obtain ⟨r19, hcr19, hM⟩ := ob_use hM
            refine cl_V (As := [.int 4, .int r2.2.1]) (rest := []) (wM_XL cI ad o_X r19 o_N o_T o_U o_O o_E o_Q o_V o_I) [] ⟨hx, hb, hml, hown, hts⟩ (c_Model_fail l D cI sd ad o_C o_X o_N o_T o_U o_O o_E o_Q o_V o_I r2.2 4 r2.2.1 r19 hcr19) (cwV2 hts q1163 mvX8_fail rfl rfl ⟨(Nat.le_of_ble_eq_true rfl), (Nat.le_of_ble_eq_true rfl)⟩) hK hE hA hP hD hS 0 (T := TX8) (N := 48) (ci := 8) rfl rfl [0] rfl (by decide) rfl rfl rfl rfl rfl rfl hl.1 (Nat.le_of_ble_eq_true rfl) dX8_readNumber_193 ⟨Nat.zero_le _, Nat.zero_le _⟩ (fun H locs hP hD hS => ?_)
            cases hM
            exact rt_v hx hb hr hlk hP hD hS rfl dX8_readNumber_196
          · replace hM := if_t c18 hM
            refine lv_lload_n hx hb dX8_readNumber_179 rfl (lv_at hl 1 rfl) ?_
            refine lv_ldc2 (v := 2147483647) hx hb hown (hts _ (inA q1202)) dX8_readNumber_180 ?_
            refine W.lcmp hx hb dX8_readNumber_183 ?_
            refine lv_if_le (tgt := 197) hx hb dX8_readNumber_184 (by decide) (fun c20 => ?_) (fun c20 => ?_)
            · replace hM := if_t c20 hM
              refine lv_aload_n hx hb dX8_readNumber_197 rfl (lv_at hl 2 rfl) ?_
              refine lv_bipush (v := 81) hx hb dX8_readNumber_198 (by decide) ?_
              refine va_put (D := D) (ci := 8) (v := .int 81) (ty := .int) (C := RX8) (T := TX8) (N := 48) hx hb hts layX8 tyX8 tyX8_ok nmX8 hown hK hP hD hS 0 rfl rfl 7 (by decide) (hts _ (inA q985)) (fun _ h9 => h9) rfl (by decide +kernel) rfl rfl (Nat.le_of_ble_eq_true rfl) dX8_readNumber_200 (fun H locs hP hD hS => ?_)
              have hP : va_P D vwCl (wM_XL cI ad o_X (r2.2.1, 81, r2.2.2.2) o_N o_T o_U o_O o_E o_Q o_V o_I) H := hP
              have hD : va_D A (wM_XL cI ad o_X (r2.2.1, 81, r2.2.2.2) o_N o_T o_U o_O o_E o_Q o_V o_I) := hD
              refine lv_aload_n hx hb dX8_readNumber_203 rfl (lv_at hl 2 rfl) ?_
              refine lv_lload_n hx hb dX8_readNumber_204 rfl (lv_at hl 1 rfl) ?_
              refine lv_l2i hx hb dX8_readNumber_205 rfl ?_
              refine va_put (D := D) (ci := 8) (v := .int r2.1.toInt32) (ty := .int) (C := RX8) (T := TX8) (N := 48) hx hb hts layX8 tyX8 tyX8_ok nmX8 hown hK hP hD hS 0 rfl rfl 8 (by decide) (hts _ (inA q986)) (fun _ h9 => h9) rfl (by decide +kernel) rfl rfl (Nat.le_of_ble_eq_true rfl) dX8_readNumber_206 (fun H locs hP hD hS => ?_)
              have hP : va_P D vwCl (wM_XL cI ad o_X (r2.2.1, 81, r2.1.toInt32, r2.2.2.2.2) o_N o_T o_U o_O o_E o_Q o_V o_I) H := hP
              have hD : va_D A (wM_XL cI ad o_X (r2.2.1, 81, r2.1.toInt32, r2.2.2.2.2) o_N o_T o_U o_O o_E o_Q o_V o_I) := hD
              cases hM
              exact rt_v hx hb hr hlk hP hD hS rfl dX8_readNumber_209
            · replace hM := if_f c20 hM
              refine lv_aload_n hx hb dX8_readNumber_187 rfl (lv_at hl 2 rfl) ?_
              refine lv_iconst (v := 4) hx hb dX8_readNumber_188 (by decide) ?_
              refine lv_aload_n hx hb dX8_readNumber_189 rfl (lv_at hl 2 rfl) ?_
              refine va_get (D := D) (ci := 8) (v := .int r2.2.1) (C := RX8) (T := TX8) (N := 48) hx hb hts layX8 hown hK hP 0 rfl rfl 6 (by decide) (hts _ (inA q984)) (fun _ h9 => h9) rfl dX8_readNumber_190 ?_
              obtain ⟨r21, hcr21, hM⟩ := ob_use hM
              refine cl_V (As := [.int 4, .int r2.2.1]) (rest := []) (wM_XL cI ad o_X r21 o_N o_T o_U o_O o_E o_Q o_V o_I) [] ⟨hx, hb, hml, hown, hts⟩ (c_Model_fail l D cI sd ad o_C o_X o_N o_T o_U o_O o_E o_Q o_V o_I r2.2 4 r2.2.1 r21 hcr21) (cwV2 hts q1163 mvX8_fail rfl rfl ⟨(Nat.le_of_ble_eq_true rfl), (Nat.le_of_ble_eq_true rfl)⟩) hK hE hA hP hD hS 0 (T := TX8) (N := 48) (ci := 8) rfl rfl [0] rfl (by decide) rfl rfl rfl rfl rfl rfl hl.1 (Nat.le_of_ble_eq_true rfl) dX8_readNumber_193 ⟨Nat.zero_le _, Nat.zero_le _⟩ (fun H locs hP hD hS => ?_)
              cases hM
              exact rt_v hx hb hr hlk hP hD hS rfl dX8_readNumber_196
        · replace hM := if_t c15 hM
          refine lv_aload_n hx hb dX8_readNumber_96 rfl (lv_at hl 2 rfl) ?_
          refine lv_dup hx hb dX8_readNumber_97 rfl ?_
          refine va_get (D := D) (ci := 8) (v := .int r2.2.2.2.2.1) (C := RX8) (T := TX8) (N := 48) hx hb hts layX8 hown hK hP 0 rfl rfl 9 (by decide) (hts _ (inA q987)) (fun _ h9 => h9) rfl dX8_readNumber_98 ?_
          refine lv_iconst (v := 1) hx hb dX8_readNumber_101 (by decide) ?_
          refine lv_iadd hx hb dX8_readNumber_102 ?_
          refine va_put (D := D) (ci := 8) (v := .int (r2.2.2.2.2.1 + 1)) (ty := .int) (C := RX8) (T := TX8) (N := 48) hx hb hts layX8 tyX8 tyX8_ok nmX8 hown hK hP hD hS 0 rfl rfl 9 (by decide) (hts _ (inA q987)) (fun _ h9 => h9) rfl (by decide +kernel) rfl rfl (Nat.le_of_ble_eq_true rfl) dX8_readNumber_103 (fun H locs hP hD hS => ?_)
          have hP : va_P D vwCl (wM_XL cI ad o_X (r2.2.1, r2.2.2.1, r2.2.2.2.1, r2.2.2.2.2.1 + 1, r2.2.2.2.2.2) o_N o_T o_U o_O o_E o_Q o_V o_I) H := hP
          have hD : va_D A (wM_XL cI ad o_X (r2.2.1, r2.2.2.1, r2.2.2.2.1, r2.2.2.2.2.1 + 1, r2.2.2.2.2.2) o_N o_T o_U o_O o_E o_Q o_V o_I) := hD
          refine lv_lload_n hx hb dX8_readNumber_106 rfl (lv_at hl 1 rfl) ?_
          refine lv_ldc2 (v := 16) hx hb hown (hts _ (inA q1193)) dX8_readNumber_107 ?_
          refine W.lcmp hx hb dX8_readNumber_110 ?_
          refine lv_if_eq (tgt := 122) hx hb dX8_readNumber_111 (by decide) (fun c22 => ?_) (fun c22 => ?_)
          · replace hM := if_t c22 hM
            refine lv_iconst (v := 1) hx hb dX8_readNumber_122 (by decide) ?_
            refine lv_goto (tgt := 127) hx hb dX8_readNumber_123 (by decide) ?_
            refine lv_istore (lv' := [(4, .int 1), (2, .long r2.1), (0, .ref (ad 100)), (1, .int a1)]) hx hb dX8_readNumber_127 hl (by decide) rfl (fun ls hl => ?_)
            refine lv_iload hx hb dX8_readNumber_129 (lv_at hl 0 rfl) ?_
            refine lv_if_eq (tgt := 143) hx hb dX8_readNumber_131 (by decide) (fun c23 => False.elim (by revert c23; decide)) (fun c23 => ?_)
            refine lv_aload_n hx hb dX8_readNumber_134 rfl (lv_at hl 2 rfl) ?_
            refine lv_lload_n hx hb dX8_readNumber_135 rfl (lv_at hl 1 rfl) ?_
            refine lv_l2i hx hb dX8_readNumber_136 rfl ?_
            obtain ⟨r24, hcr24, hM⟩ := ob_use hM
            refine cl_V (As := [.int r2.1.toInt32]) (rest := []) (wM_XL cI ad o_X r24.2 o_N o_T o_U o_O o_E o_Q o_V o_I) (.long r24.1 :: []) ⟨hx, hb, hml, hown, hts⟩ (c_Model_digits l D cI sd ad o_C o_N o_T o_U o_O o_E o_Q o_V o_I o_X (r2.2.1, r2.2.2.1, r2.2.2.2.1, r2.2.2.2.2.1 + 1, r2.2.2.2.2.2) r2.1.toInt32 r24 hcr24) (cwV2 hts q1171 mvX8_digits rfl rfl ⟨(Nat.le_of_ble_eq_true rfl), (Nat.le_of_ble_eq_true rfl)⟩) hK hE hA hP hD hS 0 (T := TX8) (N := 48) (ci := 8) rfl rfl [0, 1] rfl (by decide) rfl rfl rfl rfl rfl rfl hl.1 (Nat.le_of_ble_eq_true rfl) dX8_readNumber_137 ⟨Nat.zero_le _, Nat.zero_le _⟩ (fun H locs hP hD hS => ?_)
            refine lv_goto (tgt := 144) hx hb dX8_readNumber_140 (by decide) ?_
            refine lv_lstore_n (lv' := [(2, .long r24.1), (4, .int 1), (0, .ref (ad 100)), (1, .int a1)]) hx hb dX8_readNumber_144 rfl hl (by decide) rfl (fun ls hl => ?_)
            refine lv_iload hx hb dX8_readNumber_145 (lv_at hl 1 rfl) ?_
            refine lv_if_eq (tgt := 160) hx hb dX8_readNumber_147 (by decide) (fun c25 => False.elim (by revert c25; decide)) (fun c25 => ?_)
            refine lv_lload_n hx hb dX8_readNumber_150 rfl (lv_at hl 0 rfl) ?_
            refine lv_lconst (v := 0) hx hb dX8_readNumber_151 (by decide) ?_
            refine W.lcmp hx hb dX8_readNumber_152 ?_
            refine lv_if_lt (tgt := 160) hx hb dX8_readNumber_153 (by decide) (fun c26 => ?_) (fun c26 => ?_)
            · replace hM := if_t c26 hM
              refine lv_iconst (v := 0) hx hb dX8_readNumber_160 (by decide) ?_
              refine lv_istore (lv' := [(4, .int 0), (2, .long r24.1), (0, .ref (ad 100)), (1, .int a1)]) hx hb dX8_readNumber_161 hl (by decide) rfl (fun ls hl => ?_)
              refine lv_iload hx hb dX8_readNumber_163 (lv_at hl 0 rfl) ?_
              refine lv_if_eq (tgt := 187) hx hb dX8_readNumber_165 (by decide) (fun c27 => ?_) (fun c27 => False.elim (by revert c27; decide))
              refine lv_aload_n hx hb dX8_readNumber_187 rfl (lv_at hl 2 rfl) ?_
              refine lv_iconst (v := 4) hx hb dX8_readNumber_188 (by decide) ?_
              refine lv_aload_n hx hb dX8_readNumber_189 rfl (lv_at hl 2 rfl) ?_
              refine va_get (D := D) (ci := 8) (v := .int r24.2.1) (C := RX8) (T := TX8) (N := 48) hx hb hts layX8 hown hK hP 0 rfl rfl 6 (by decide) (hts _ (inA q984)) (fun _ h9 => h9) rfl dX8_readNumber_190 ?_
              obtain ⟨r28, hcr28, hM⟩ := ob_use hM
              refine cl_V (As := [.int 4, .int r24.2.1]) (rest := []) (wM_XL cI ad o_X r28 o_N o_T o_U o_O o_E o_Q o_V o_I) [] ⟨hx, hb, hml, hown, hts⟩ (c_Model_fail l D cI sd ad o_C o_X o_N o_T o_U o_O o_E o_Q o_V o_I r24.2 4 r24.2.1 r28 hcr28) (cwV2 hts q1163 mvX8_fail rfl rfl ⟨(Nat.le_of_ble_eq_true rfl), (Nat.le_of_ble_eq_true rfl)⟩) hK hE hA hP hD hS 0 (T := TX8) (N := 48) (ci := 8) rfl rfl [0] rfl (by decide) rfl rfl rfl rfl rfl rfl hl.1 (Nat.le_of_ble_eq_true rfl) dX8_readNumber_193 ⟨Nat.zero_le _, Nat.zero_le _⟩ (fun H locs hP hD hS => ?_)
              cases hM
              exact rt_v hx hb hr hlk hP hD hS rfl dX8_readNumber_196
            · replace hM := if_f c26 hM
              refine lv_iconst (v := 1) hx hb dX8_readNumber_156 (by decide) ?_
              refine lv_goto (tgt := 161) hx hb dX8_readNumber_157 (by decide) ?_
              refine lv_istore (lv' := [(4, .int 1), (2, .long r24.1), (0, .ref (ad 100)), (1, .int a1)]) hx hb dX8_readNumber_161 hl (by decide) rfl (fun ls hl => ?_)
              refine lv_iload hx hb dX8_readNumber_163 (lv_at hl 0 rfl) ?_
              refine lv_if_eq (tgt := 187) hx hb dX8_readNumber_165 (by decide) (fun c29 => False.elim (by revert c29; decide)) (fun c29 => ?_)
              refine lv_aload_n hx hb dX8_readNumber_168 rfl (lv_at hl 2 rfl) ?_
              refine lv_aload_n hx hb dX8_readNumber_169 rfl (lv_at hl 2 rfl) ?_
              refine va_get (D := D) (ci := 8) (v := .int r24.2.2.2.2.1) (C := RX8) (T := TX8) (N := 48) hx hb hts layX8 hown hK hP 0 rfl rfl 9 (by decide) (hts _ (inA q987)) (fun _ h9 => h9) rfl dX8_readNumber_170 ?_
              obtain ⟨r30, hcr30, hM⟩ := ob_use hM
              refine cl_V (As := [.int r24.2.2.2.2.1]) (rest := []) (wM_XL cI ad o_X r24.2 o_N o_T o_U o_O o_E o_Q o_V o_I) (.int r30 :: []) ⟨hx, hb, hml, hown, hts⟩ (c_Model_goesOn l D cI sd ad o_C r24.2 o_N o_T o_U o_O o_E o_Q o_V o_I o_X r24.2.2.2.2.1 r30 hcr30) (cwV2 hts q1195 mvX8_goesOn rfl rfl ⟨(Nat.le_of_ble_eq_true rfl), (Nat.le_of_ble_eq_true rfl)⟩) hK hE hA hP hD hS 0 (T := TX8) (N := 48) (ci := 8) rfl rfl [0, 1] rfl (by decide) rfl rfl rfl rfl rfl rfl hl.1 (Nat.le_of_ble_eq_true rfl) dX8_readNumber_173 ⟨Nat.zero_le _, Nat.zero_le _⟩ (fun H locs hP hD hS => ?_)
              refine lv_if_ne (tgt := 187) hx hb dX8_readNumber_176 (by decide) (fun c31 => ?_) (fun c31 => ?_)
              · replace hM := if_f c31 hM
                refine lv_aload_n hx hb dX8_readNumber_187 rfl (lv_at hl 2 rfl) ?_
                refine lv_iconst (v := 4) hx hb dX8_readNumber_188 (by decide) ?_
                refine lv_aload_n hx hb dX8_readNumber_189 rfl (lv_at hl 2 rfl) ?_
                refine va_get (D := D) (ci := 8) (v := .int r24.2.1) (C := RX8) (T := TX8) (N := 48) hx hb hts layX8 hown hK hP 0 rfl rfl 6 (by decide) (hts _ (inA q984)) (fun _ h9 => h9) rfl dX8_readNumber_190 ?_
                obtain ⟨r32, hcr32, hM⟩ := ob_use hM
                refine cl_V (As := [.int 4, .int r24.2.1]) (rest := []) (wM_XL cI ad o_X r32 o_N o_T o_U o_O o_E o_Q o_V o_I) [] ⟨hx, hb, hml, hown, hts⟩ (c_Model_fail l D cI sd ad o_C o_X o_N o_T o_U o_O o_E o_Q o_V o_I r24.2 4 r24.2.1 r32 hcr32) (cwV2 hts q1163 mvX8_fail rfl rfl ⟨(Nat.le_of_ble_eq_true rfl), (Nat.le_of_ble_eq_true rfl)⟩) hK hE hA hP hD hS 0 (T := TX8) (N := 48) (ci := 8) rfl rfl [0] rfl (by decide) rfl rfl rfl rfl rfl rfl hl.1 (Nat.le_of_ble_eq_true rfl) dX8_readNumber_193 ⟨Nat.zero_le _, Nat.zero_le _⟩ (fun H locs hP hD hS => ?_)
                cases hM
                exact rt_v hx hb hr hlk hP hD hS rfl dX8_readNumber_196
              · replace hM := if_t c31 hM
                refine lv_lload_n hx hb dX8_readNumber_179 rfl (lv_at hl 1 rfl) ?_
                refine lv_ldc2 (v := 2147483647) hx hb hown (hts _ (inA q1202)) dX8_readNumber_180 ?_
                refine W.lcmp hx hb dX8_readNumber_183 ?_
                refine lv_if_le (tgt := 197) hx hb dX8_readNumber_184 (by decide) (fun c33 => ?_) (fun c33 => ?_)
                · replace hM := if_t c33 hM
                  refine lv_aload_n hx hb dX8_readNumber_197 rfl (lv_at hl 2 rfl) ?_
                  refine lv_bipush (v := 81) hx hb dX8_readNumber_198 (by decide) ?_
                  refine va_put (D := D) (ci := 8) (v := .int 81) (ty := .int) (C := RX8) (T := TX8) (N := 48) hx hb hts layX8 tyX8 tyX8_ok nmX8 hown hK hP hD hS 0 rfl rfl 7 (by decide) (hts _ (inA q985)) (fun _ h9 => h9) rfl (by decide +kernel) rfl rfl (Nat.le_of_ble_eq_true rfl) dX8_readNumber_200 (fun H locs hP hD hS => ?_)
                  have hP : va_P D vwCl (wM_XL cI ad o_X (r24.2.1, 81, r24.2.2.2) o_N o_T o_U o_O o_E o_Q o_V o_I) H := hP
                  have hD : va_D A (wM_XL cI ad o_X (r24.2.1, 81, r24.2.2.2) o_N o_T o_U o_O o_E o_Q o_V o_I) := hD
                  refine lv_aload_n hx hb dX8_readNumber_203 rfl (lv_at hl 2 rfl) ?_
                  refine lv_lload_n hx hb dX8_readNumber_204 rfl (lv_at hl 1 rfl) ?_
                  refine lv_l2i hx hb dX8_readNumber_205 rfl ?_
                  refine va_put (D := D) (ci := 8) (v := .int r24.1.toInt32) (ty := .int) (C := RX8) (T := TX8) (N := 48) hx hb hts layX8 tyX8 tyX8_ok nmX8 hown hK hP hD hS 0 rfl rfl 8 (by decide) (hts _ (inA q986)) (fun _ h9 => h9) rfl (by decide +kernel) rfl rfl (Nat.le_of_ble_eq_true rfl) dX8_readNumber_206 (fun H locs hP hD hS => ?_)
                  have hP : va_P D vwCl (wM_XL cI ad o_X (r24.2.1, 81, r24.1.toInt32, r24.2.2.2.2) o_N o_T o_U o_O o_E o_Q o_V o_I) H := hP
                  have hD : va_D A (wM_XL cI ad o_X (r24.2.1, 81, r24.1.toInt32, r24.2.2.2.2) o_N o_T o_U o_O o_E o_Q o_V o_I) := hD
                  cases hM
                  exact rt_v hx hb hr hlk hP hD hS rfl dX8_readNumber_209
                · replace hM := if_f c33 hM
                  refine lv_aload_n hx hb dX8_readNumber_187 rfl (lv_at hl 2 rfl) ?_
                  refine lv_iconst (v := 4) hx hb dX8_readNumber_188 (by decide) ?_
                  refine lv_aload_n hx hb dX8_readNumber_189 rfl (lv_at hl 2 rfl) ?_
                  refine va_get (D := D) (ci := 8) (v := .int r24.2.1) (C := RX8) (T := TX8) (N := 48) hx hb hts layX8 hown hK hP 0 rfl rfl 6 (by decide) (hts _ (inA q984)) (fun _ h9 => h9) rfl dX8_readNumber_190 ?_
                  obtain ⟨r34, hcr34, hM⟩ := ob_use hM
                  refine cl_V (As := [.int 4, .int r24.2.1]) (rest := []) (wM_XL cI ad o_X r34 o_N o_T o_U o_O o_E o_Q o_V o_I) [] ⟨hx, hb, hml, hown, hts⟩ (c_Model_fail l D cI sd ad o_C o_X o_N o_T o_U o_O o_E o_Q o_V o_I r24.2 4 r24.2.1 r34 hcr34) (cwV2 hts q1163 mvX8_fail rfl rfl ⟨(Nat.le_of_ble_eq_true rfl), (Nat.le_of_ble_eq_true rfl)⟩) hK hE hA hP hD hS 0 (T := TX8) (N := 48) (ci := 8) rfl rfl [0] rfl (by decide) rfl rfl rfl rfl rfl rfl hl.1 (Nat.le_of_ble_eq_true rfl) dX8_readNumber_193 ⟨Nat.zero_le _, Nat.zero_le _⟩ (fun H locs hP hD hS => ?_)
                  cases hM
                  exact rt_v hx hb hr hlk hP hD hS rfl dX8_readNumber_196
          · replace hM := if_f c22 hM
            refine lv_lload_n hx hb dX8_readNumber_114 rfl (lv_at hl 1 rfl) ?_
            refine lv_ldc2 (v := 2) hx hb hown (hts _ (inA q1194)) dX8_readNumber_115 ?_
            refine W.lcmp hx hb dX8_readNumber_118 ?_
            refine lv_if_ne (tgt := 126) hx hb dX8_readNumber_119 (by decide) (fun c35 => ?_) (fun c35 => ?_)
            · replace hM := if_f c35 hM
              refine lv_iconst (v := 0) hx hb dX8_readNumber_126 (by decide) ?_
              refine lv_istore (lv' := [(4, .int 0), (2, .long r2.1), (0, .ref (ad 100)), (1, .int a1)]) hx hb dX8_readNumber_127 hl (by decide) rfl (fun ls hl => ?_)
              refine lv_iload hx hb dX8_readNumber_129 (lv_at hl 0 rfl) ?_
              refine lv_if_eq (tgt := 143) hx hb dX8_readNumber_131 (by decide) (fun c36 => ?_) (fun c36 => False.elim (by revert c36; decide))
              refine lv_lload_n hx hb dX8_readNumber_143 rfl (lv_at hl 1 rfl) ?_
              refine lv_lstore_n (lv' := [(2, .long r2.1), (4, .int 0), (0, .ref (ad 100)), (1, .int a1)]) hx hb dX8_readNumber_144 rfl hl (by decide) rfl (fun ls hl => ?_)
              refine lv_iload hx hb dX8_readNumber_145 (lv_at hl 1 rfl) ?_
              refine lv_if_eq (tgt := 160) hx hb dX8_readNumber_147 (by decide) (fun c37 => ?_) (fun c37 => False.elim (by revert c37; decide))
              refine lv_iconst (v := 0) hx hb dX8_readNumber_160 (by decide) ?_
              refine lv_istore (lv' := [(4, .int 0), (2, .long r2.1), (0, .ref (ad 100)), (1, .int a1)]) hx hb dX8_readNumber_161 hl (by decide) rfl (fun ls hl => ?_)
              refine lv_iload hx hb dX8_readNumber_163 (lv_at hl 0 rfl) ?_
              refine lv_if_eq (tgt := 187) hx hb dX8_readNumber_165 (by decide) (fun c38 => ?_) (fun c38 => False.elim (by revert c38; decide))
              refine lv_aload_n hx hb dX8_readNumber_187 rfl (lv_at hl 2 rfl) ?_
              refine lv_iconst (v := 4) hx hb dX8_readNumber_188 (by decide) ?_
              refine lv_aload_n hx hb dX8_readNumber_189 rfl (lv_at hl 2 rfl) ?_
              refine va_get (D := D) (ci := 8) (v := .int r2.2.1) (C := RX8) (T := TX8) (N := 48) hx hb hts layX8 hown hK hP 0 rfl rfl 6 (by decide) (hts _ (inA q984)) (fun _ h9 => h9) rfl dX8_readNumber_190 ?_
              obtain ⟨r39, hcr39, hM⟩ := ob_use hM
              refine cl_V (As := [.int 4, .int r2.2.1]) (rest := []) (wM_XL cI ad o_X r39 o_N o_T o_U o_O o_E o_Q o_V o_I) [] ⟨hx, hb, hml, hown, hts⟩ (c_Model_fail l D cI sd ad o_C o_X o_N o_T o_U o_O o_E o_Q o_V o_I (r2.2.1, r2.2.2.1, r2.2.2.2.1, r2.2.2.2.2.1 + 1, r2.2.2.2.2.2) 4 r2.2.1 r39 hcr39) (cwV2 hts q1163 mvX8_fail rfl rfl ⟨(Nat.le_of_ble_eq_true rfl), (Nat.le_of_ble_eq_true rfl)⟩) hK hE hA hP hD hS 0 (T := TX8) (N := 48) (ci := 8) rfl rfl [0] rfl (by decide) rfl rfl rfl rfl rfl rfl hl.1 (Nat.le_of_ble_eq_true rfl) dX8_readNumber_193 ⟨Nat.zero_le _, Nat.zero_le _⟩ (fun H locs hP hD hS => ?_)
              cases hM
              exact rt_v hx hb hr hlk hP hD hS rfl dX8_readNumber_196
            · replace hM := if_t c35 hM
              refine lv_iconst (v := 1) hx hb dX8_readNumber_122 (by decide) ?_
              refine lv_goto (tgt := 127) hx hb dX8_readNumber_123 (by decide) ?_
              refine lv_istore (lv' := [(4, .int 1), (2, .long r2.1), (0, .ref (ad 100)), (1, .int a1)]) hx hb dX8_readNumber_127 hl (by decide) rfl (fun ls hl => ?_)
              refine lv_iload hx hb dX8_readNumber_129 (lv_at hl 0 rfl) ?_
              refine lv_if_eq (tgt := 143) hx hb dX8_readNumber_131 (by decide) (fun c40 => False.elim (by revert c40; decide)) (fun c40 => ?_)
              refine lv_aload_n hx hb dX8_readNumber_134 rfl (lv_at hl 2 rfl) ?_
              refine lv_lload_n hx hb dX8_readNumber_135 rfl (lv_at hl 1 rfl) ?_
              refine lv_l2i hx hb dX8_readNumber_136 rfl ?_
              obtain ⟨r41, hcr41, hM⟩ := ob_use hM
              refine cl_V (As := [.int r2.1.toInt32]) (rest := []) (wM_XL cI ad o_X r41.2 o_N o_T o_U o_O o_E o_Q o_V o_I) (.long r41.1 :: []) ⟨hx, hb, hml, hown, hts⟩ (c_Model_digits l D cI sd ad o_C o_N o_T o_U o_O o_E o_Q o_V o_I o_X (r2.2.1, r2.2.2.1, r2.2.2.2.1, r2.2.2.2.2.1 + 1, r2.2.2.2.2.2) r2.1.toInt32 r41 hcr41) (cwV2 hts q1171 mvX8_digits rfl rfl ⟨(Nat.le_of_ble_eq_true rfl), (Nat.le_of_ble_eq_true rfl)⟩) hK hE hA hP hD hS 0 (T := TX8) (N := 48) (ci := 8) rfl rfl [0, 1] rfl (by decide) rfl rfl rfl rfl rfl rfl hl.1 (Nat.le_of_ble_eq_true rfl) dX8_readNumber_137 ⟨Nat.zero_le _, Nat.zero_le _⟩ (fun H locs hP hD hS => ?_)
              refine lv_goto (tgt := 144) hx hb dX8_readNumber_140 (by decide) ?_
              refine lv_lstore_n (lv' := [(2, .long r41.1), (4, .int 1), (0, .ref (ad 100)), (1, .int a1)]) hx hb dX8_readNumber_144 rfl hl (by decide) rfl (fun ls hl => ?_)
              refine lv_iload hx hb dX8_readNumber_145 (lv_at hl 1 rfl) ?_
              refine lv_if_eq (tgt := 160) hx hb dX8_readNumber_147 (by decide) (fun c42 => False.elim (by revert c42; decide)) (fun c42 => ?_)
              refine lv_lload_n hx hb dX8_readNumber_150 rfl (lv_at hl 0 rfl) ?_
              refine lv_lconst (v := 0) hx hb dX8_readNumber_151 (by decide) ?_
              refine W.lcmp hx hb dX8_readNumber_152 ?_
              refine lv_if_lt (tgt := 160) hx hb dX8_readNumber_153 (by decide) (fun c43 => ?_) (fun c43 => ?_)
              · replace hM := if_t c43 hM
                refine lv_iconst (v := 0) hx hb dX8_readNumber_160 (by decide) ?_
                refine lv_istore (lv' := [(4, .int 0), (2, .long r41.1), (0, .ref (ad 100)), (1, .int a1)]) hx hb dX8_readNumber_161 hl (by decide) rfl (fun ls hl => ?_)
                refine lv_iload hx hb dX8_readNumber_163 (lv_at hl 0 rfl) ?_
                refine lv_if_eq (tgt := 187) hx hb dX8_readNumber_165 (by decide) (fun c44 => ?_) (fun c44 => False.elim (by revert c44; decide))
                refine lv_aload_n hx hb dX8_readNumber_187 rfl (lv_at hl 2 rfl) ?_
                refine lv_iconst (v := 4) hx hb dX8_readNumber_188 (by decide) ?_
                refine lv_aload_n hx hb dX8_readNumber_189 rfl (lv_at hl 2 rfl) ?_
                refine va_get (D := D) (ci := 8) (v := .int r41.2.1) (C := RX8) (T := TX8) (N := 48) hx hb hts layX8 hown hK hP 0 rfl rfl 6 (by decide) (hts _ (inA q984)) (fun _ h9 => h9) rfl dX8_readNumber_190 ?_
                obtain ⟨r45, hcr45, hM⟩ := ob_use hM
                refine cl_V (As := [.int 4, .int r41.2.1]) (rest := []) (wM_XL cI ad o_X r45 o_N o_T o_U o_O o_E o_Q o_V o_I) [] ⟨hx, hb, hml, hown, hts⟩ (c_Model_fail l D cI sd ad o_C o_X o_N o_T o_U o_O o_E o_Q o_V o_I r41.2 4 r41.2.1 r45 hcr45) (cwV2 hts q1163 mvX8_fail rfl rfl ⟨(Nat.le_of_ble_eq_true rfl), (Nat.le_of_ble_eq_true rfl)⟩) hK hE hA hP hD hS 0 (T := TX8) (N := 48) (ci := 8) rfl rfl [0] rfl (by decide) rfl rfl rfl rfl rfl rfl hl.1 (Nat.le_of_ble_eq_true rfl) dX8_readNumber_193 ⟨Nat.zero_le _, Nat.zero_le _⟩ (fun H locs hP hD hS => ?_)
                cases hM
                exact rt_v hx hb hr hlk hP hD hS rfl dX8_readNumber_196
              · replace hM := if_f c43 hM
                refine lv_iconst (v := 1) hx hb dX8_readNumber_156 (by decide) ?_
                refine lv_goto (tgt := 161) hx hb dX8_readNumber_157 (by decide) ?_
                refine lv_istore (lv' := [(4, .int 1), (2, .long r41.1), (0, .ref (ad 100)), (1, .int a1)]) hx hb dX8_readNumber_161 hl (by decide) rfl (fun ls hl => ?_)
                refine lv_iload hx hb dX8_readNumber_163 (lv_at hl 0 rfl) ?_
                refine lv_if_eq (tgt := 187) hx hb dX8_readNumber_165 (by decide) (fun c46 => False.elim (by revert c46; decide)) (fun c46 => ?_)
                refine lv_aload_n hx hb dX8_readNumber_168 rfl (lv_at hl 2 rfl) ?_
                refine lv_aload_n hx hb dX8_readNumber_169 rfl (lv_at hl 2 rfl) ?_
                refine va_get (D := D) (ci := 8) (v := .int r41.2.2.2.2.1) (C := RX8) (T := TX8) (N := 48) hx hb hts layX8 hown hK hP 0 rfl rfl 9 (by decide) (hts _ (inA q987)) (fun _ h9 => h9) rfl dX8_readNumber_170 ?_
                obtain ⟨r47, hcr47, hM⟩ := ob_use hM
                refine cl_V (As := [.int r41.2.2.2.2.1]) (rest := []) (wM_XL cI ad o_X r41.2 o_N o_T o_U o_O o_E o_Q o_V o_I) (.int r47 :: []) ⟨hx, hb, hml, hown, hts⟩ (c_Model_goesOn l D cI sd ad o_C r41.2 o_N o_T o_U o_O o_E o_Q o_V o_I o_X r41.2.2.2.2.1 r47 hcr47) (cwV2 hts q1195 mvX8_goesOn rfl rfl ⟨(Nat.le_of_ble_eq_true rfl), (Nat.le_of_ble_eq_true rfl)⟩) hK hE hA hP hD hS 0 (T := TX8) (N := 48) (ci := 8) rfl rfl [0, 1] rfl (by decide) rfl rfl rfl rfl rfl rfl hl.1 (Nat.le_of_ble_eq_true rfl) dX8_readNumber_173 ⟨Nat.zero_le _, Nat.zero_le _⟩ (fun H locs hP hD hS => ?_)
                refine lv_if_ne (tgt := 187) hx hb dX8_readNumber_176 (by decide) (fun c48 => ?_) (fun c48 => ?_)
                · replace hM := if_f c48 hM
                  refine lv_aload_n hx hb dX8_readNumber_187 rfl (lv_at hl 2 rfl) ?_
                  refine lv_iconst (v := 4) hx hb dX8_readNumber_188 (by decide) ?_
                  refine lv_aload_n hx hb dX8_readNumber_189 rfl (lv_at hl 2 rfl) ?_
                  refine va_get (D := D) (ci := 8) (v := .int r41.2.1) (C := RX8) (T := TX8) (N := 48) hx hb hts layX8 hown hK hP 0 rfl rfl 6 (by decide) (hts _ (inA q984)) (fun _ h9 => h9) rfl dX8_readNumber_190 ?_
                  obtain ⟨r49, hcr49, hM⟩ := ob_use hM
                  refine cl_V (As := [.int 4, .int r41.2.1]) (rest := []) (wM_XL cI ad o_X r49 o_N o_T o_U o_O o_E o_Q o_V o_I) [] ⟨hx, hb, hml, hown, hts⟩ (c_Model_fail l D cI sd ad o_C o_X o_N o_T o_U o_O o_E o_Q o_V o_I r41.2 4 r41.2.1 r49 hcr49) (cwV2 hts q1163 mvX8_fail rfl rfl ⟨(Nat.le_of_ble_eq_true rfl), (Nat.le_of_ble_eq_true rfl)⟩) hK hE hA hP hD hS 0 (T := TX8) (N := 48) (ci := 8) rfl rfl [0] rfl (by decide) rfl rfl rfl rfl rfl rfl hl.1 (Nat.le_of_ble_eq_true rfl) dX8_readNumber_193 ⟨Nat.zero_le _, Nat.zero_le _⟩ (fun H locs hP hD hS => ?_)
                  cases hM
                  exact rt_v hx hb hr hlk hP hD hS rfl dX8_readNumber_196
                · replace hM := if_t c48 hM
                  refine lv_lload_n hx hb dX8_readNumber_179 rfl (lv_at hl 1 rfl) ?_
                  refine lv_ldc2 (v := 2147483647) hx hb hown (hts _ (inA q1202)) dX8_readNumber_180 ?_
                  refine W.lcmp hx hb dX8_readNumber_183 ?_
                  refine lv_if_le (tgt := 197) hx hb dX8_readNumber_184 (by decide) (fun c50 => ?_) (fun c50 => ?_)
                  · replace hM := if_t c50 hM
                    refine lv_aload_n hx hb dX8_readNumber_197 rfl (lv_at hl 2 rfl) ?_
                    refine lv_bipush (v := 81) hx hb dX8_readNumber_198 (by decide) ?_
                    refine va_put (D := D) (ci := 8) (v := .int 81) (ty := .int) (C := RX8) (T := TX8) (N := 48) hx hb hts layX8 tyX8 tyX8_ok nmX8 hown hK hP hD hS 0 rfl rfl 7 (by decide) (hts _ (inA q985)) (fun _ h9 => h9) rfl (by decide +kernel) rfl rfl (Nat.le_of_ble_eq_true rfl) dX8_readNumber_200 (fun H locs hP hD hS => ?_)
                    have hP : va_P D vwCl (wM_XL cI ad o_X (r41.2.1, 81, r41.2.2.2) o_N o_T o_U o_O o_E o_Q o_V o_I) H := hP
                    have hD : va_D A (wM_XL cI ad o_X (r41.2.1, 81, r41.2.2.2) o_N o_T o_U o_O o_E o_Q o_V o_I) := hD
                    refine lv_aload_n hx hb dX8_readNumber_203 rfl (lv_at hl 2 rfl) ?_
                    refine lv_lload_n hx hb dX8_readNumber_204 rfl (lv_at hl 1 rfl) ?_
                    refine lv_l2i hx hb dX8_readNumber_205 rfl ?_
                    refine va_put (D := D) (ci := 8) (v := .int r41.1.toInt32) (ty := .int) (C := RX8) (T := TX8) (N := 48) hx hb hts layX8 tyX8 tyX8_ok nmX8 hown hK hP hD hS 0 rfl rfl 8 (by decide) (hts _ (inA q986)) (fun _ h9 => h9) rfl (by decide +kernel) rfl rfl (Nat.le_of_ble_eq_true rfl) dX8_readNumber_206 (fun H locs hP hD hS => ?_)
                    have hP : va_P D vwCl (wM_XL cI ad o_X (r41.2.1, 81, r41.1.toInt32, r41.2.2.2.2) o_N o_T o_U o_O o_E o_Q o_V o_I) H := hP
                    have hD : va_D A (wM_XL cI ad o_X (r41.2.1, 81, r41.1.toInt32, r41.2.2.2.2) o_N o_T o_U o_O o_E o_Q o_V o_I) := hD
                    cases hM
                    exact rt_v hx hb hr hlk hP hD hS rfl dX8_readNumber_209
                  · replace hM := if_f c50 hM
                    refine lv_aload_n hx hb dX8_readNumber_187 rfl (lv_at hl 2 rfl) ?_
                    refine lv_iconst (v := 4) hx hb dX8_readNumber_188 (by decide) ?_
                    refine lv_aload_n hx hb dX8_readNumber_189 rfl (lv_at hl 2 rfl) ?_
                    refine va_get (D := D) (ci := 8) (v := .int r41.2.1) (C := RX8) (T := TX8) (N := 48) hx hb hts layX8 hown hK hP 0 rfl rfl 6 (by decide) (hts _ (inA q984)) (fun _ h9 => h9) rfl dX8_readNumber_190 ?_
                    obtain ⟨r51, hcr51, hM⟩ := ob_use hM
                    refine cl_V (As := [.int 4, .int r41.2.1]) (rest := []) (wM_XL cI ad o_X r51 o_N o_T o_U o_O o_E o_Q o_V o_I) [] ⟨hx, hb, hml, hown, hts⟩ (c_Model_fail l D cI sd ad o_C o_X o_N o_T o_U o_O o_E o_Q o_V o_I r41.2 4 r41.2.1 r51 hcr51) (cwV2 hts q1163 mvX8_fail rfl rfl ⟨(Nat.le_of_ble_eq_true rfl), (Nat.le_of_ble_eq_true rfl)⟩) hK hE hA hP hD hS 0 (T := TX8) (N := 48) (ci := 8) rfl rfl [0] rfl (by decide) rfl rfl rfl rfl rfl rfl hl.1 (Nat.le_of_ble_eq_true rfl) dX8_readNumber_193 ⟨Nat.zero_le _, Nat.zero_le _⟩ (fun H locs hP hD hS => ?_)
                    cases hM
                    exact rt_v hx hb hr hlk hP hD hS rfl dX8_readNumber_196
      · replace hM := if_f c12 hM
        refine lv_iload hx hb dX8_readNumber_45 (lv_at hl 0 rfl) ?_
        refine lv_if_eq (tgt := 78) hx hb dX8_readNumber_47 (by decide) (fun c52 => False.elim (by revert c52; decide)) (fun c52 => ?_)
        refine lv_aload_n hx hb dX8_readNumber_50 rfl (lv_at hl 2 rfl) ?_
        obtain ⟨r53, hcr53, hM⟩ := ob_use hM
        refine cl_V (As := []) (rest := []) (wM_XL cI ad o_X r53.2 o_N o_T o_U o_O o_E o_Q o_V o_I) (.long r53.1 :: []) ⟨hx, hb, hml, hown, hts⟩ (c_Model_unit l D cI sd ad o_C o_N o_T o_U o_O o_E o_Q o_V o_I o_X r2.2 r53 hcr53) (cwV2 hts q1186 mvX8_unit rfl rfl ⟨(Nat.le_of_ble_eq_true rfl), (Nat.le_of_ble_eq_true rfl)⟩) hK hE hA hP hD hS 0 (T := TX8) (N := 48) (ci := 8) rfl rfl [0, 1] rfl (by decide) rfl rfl rfl rfl rfl rfl hl.1 (Nat.le_of_ble_eq_true rfl) dX8_readNumber_51 ⟨Nat.zero_le _, Nat.zero_le _⟩ (fun H locs hP hD hS => ?_)
        refine lv_lstore (lv' := [(5, .long r53.1), (4, .int 1), (2, .long r2.1), (0, .ref (ad 100)), (1, .int a1)]) hx hb dX8_readNumber_54 hl (by decide) rfl (fun ls hl => ?_)
        refine lv_lload hx hb dX8_readNumber_56 (lv_at hl 0 rfl) ?_
        refine lv_lconst (v := 0) hx hb dX8_readNumber_58 (by decide) ?_
        refine W.lcmp hx hb dX8_readNumber_59 ?_
        refine lv_if_le (tgt := 67) hx hb dX8_readNumber_60 (by decide) (fun c54 => ?_) (fun c54 => ?_)
        · replace hM := if_t c54 hM
          refine lv_iconst (v := 0) hx hb dX8_readNumber_67 (by decide) ?_
          refine lv_istore (lv' := [(4, .int 0), (5, .long r53.1), (2, .long r2.1), (0, .ref (ad 100)), (1, .int a1)]) hx hb dX8_readNumber_68 hl (by decide) rfl (fun ls hl => ?_)
          refine lv_lload_n hx hb dX8_readNumber_70 rfl (lv_at hl 2 rfl) ?_
          refine lv_lload hx hb dX8_readNumber_71 (lv_at hl 1 rfl) ?_
          refine lv_lmul hx hb dX8_readNumber_73 ?_
          refine lv_lstore_n (lv' := [(2, .long (r2.1 * r53.1)), (4, .int 0), (5, .long r53.1), (0, .ref (ad 100)), (1, .int a1)]) hx hb dX8_readNumber_74 rfl hl (by decide) rfl (fun ls hl => ?_)
          refine lv_goto (tgt := 163) hx hb dX8_readNumber_75 (by decide) ?_
          refine lv_iload hx hb dX8_readNumber_163 (lv_at hl 1 rfl) ?_
          refine lv_if_eq (tgt := 187) hx hb dX8_readNumber_165 (by decide) (fun c55 => ?_) (fun c55 => False.elim (by revert c55; decide))
          refine lv_aload_n hx hb dX8_readNumber_187 rfl (lv_at hl 3 rfl) ?_
          refine lv_iconst (v := 4) hx hb dX8_readNumber_188 (by decide) ?_
          refine lv_aload_n hx hb dX8_readNumber_189 rfl (lv_at hl 3 rfl) ?_
          refine va_get (D := D) (ci := 8) (v := .int r53.2.1) (C := RX8) (T := TX8) (N := 48) hx hb hts layX8 hown hK hP 0 rfl rfl 6 (by decide) (hts _ (inA q984)) (fun _ h9 => h9) rfl dX8_readNumber_190 ?_
          obtain ⟨r56, hcr56, hM⟩ := ob_use hM
          refine cl_V (As := [.int 4, .int r53.2.1]) (rest := []) (wM_XL cI ad o_X r56 o_N o_T o_U o_O o_E o_Q o_V o_I) [] ⟨hx, hb, hml, hown, hts⟩ (c_Model_fail l D cI sd ad o_C o_X o_N o_T o_U o_O o_E o_Q o_V o_I r53.2 4 r53.2.1 r56 hcr56) (cwV2 hts q1163 mvX8_fail rfl rfl ⟨(Nat.le_of_ble_eq_true rfl), (Nat.le_of_ble_eq_true rfl)⟩) hK hE hA hP hD hS 0 (T := TX8) (N := 48) (ci := 8) rfl rfl [0] rfl (by decide) rfl rfl rfl rfl rfl rfl hl.1 (Nat.le_of_ble_eq_true rfl) dX8_readNumber_193 ⟨Nat.zero_le _, Nat.zero_le _⟩ (fun H locs hP hD hS => ?_)
          cases hM
          exact rt_v hx hb hr hlk hP hD hS rfl dX8_readNumber_196
        · replace hM := if_f c54 hM
          refine lv_iconst (v := 1) hx hb dX8_readNumber_63 (by decide) ?_
          refine lv_goto (tgt := 68) hx hb dX8_readNumber_64 (by decide) ?_
          refine lv_istore (lv' := [(4, .int 1), (5, .long r53.1), (2, .long r2.1), (0, .ref (ad 100)), (1, .int a1)]) hx hb dX8_readNumber_68 hl (by decide) rfl (fun ls hl => ?_)
          refine lv_lload_n hx hb dX8_readNumber_70 rfl (lv_at hl 2 rfl) ?_
          refine lv_lload hx hb dX8_readNumber_71 (lv_at hl 1 rfl) ?_
          refine lv_lmul hx hb dX8_readNumber_73 ?_
          refine lv_lstore_n (lv' := [(2, .long (r2.1 * r53.1)), (4, .int 1), (5, .long r53.1), (0, .ref (ad 100)), (1, .int a1)]) hx hb dX8_readNumber_74 rfl hl (by decide) rfl (fun ls hl => ?_)
          refine lv_goto (tgt := 163) hx hb dX8_readNumber_75 (by decide) ?_
          refine lv_iload hx hb dX8_readNumber_163 (lv_at hl 1 rfl) ?_
          refine lv_if_eq (tgt := 187) hx hb dX8_readNumber_165 (by decide) (fun c57 => False.elim (by revert c57; decide)) (fun c57 => ?_)
          refine lv_aload_n hx hb dX8_readNumber_168 rfl (lv_at hl 3 rfl) ?_
          refine lv_aload_n hx hb dX8_readNumber_169 rfl (lv_at hl 3 rfl) ?_
          refine va_get (D := D) (ci := 8) (v := .int r53.2.2.2.2.1) (C := RX8) (T := TX8) (N := 48) hx hb hts layX8 hown hK hP 0 rfl rfl 9 (by decide) (hts _ (inA q987)) (fun _ h9 => h9) rfl dX8_readNumber_170 ?_
          obtain ⟨r58, hcr58, hM⟩ := ob_use hM
          refine cl_V (As := [.int r53.2.2.2.2.1]) (rest := []) (wM_XL cI ad o_X r53.2 o_N o_T o_U o_O o_E o_Q o_V o_I) (.int r58 :: []) ⟨hx, hb, hml, hown, hts⟩ (c_Model_goesOn l D cI sd ad o_C r53.2 o_N o_T o_U o_O o_E o_Q o_V o_I o_X r53.2.2.2.2.1 r58 hcr58) (cwV2 hts q1195 mvX8_goesOn rfl rfl ⟨(Nat.le_of_ble_eq_true rfl), (Nat.le_of_ble_eq_true rfl)⟩) hK hE hA hP hD hS 0 (T := TX8) (N := 48) (ci := 8) rfl rfl [0, 1] rfl (by decide) rfl rfl rfl rfl rfl rfl hl.1 (Nat.le_of_ble_eq_true rfl) dX8_readNumber_173 ⟨Nat.zero_le _, Nat.zero_le _⟩ (fun H locs hP hD hS => ?_)
          refine lv_if_ne (tgt := 187) hx hb dX8_readNumber_176 (by decide) (fun c59 => ?_) (fun c59 => ?_)
          · replace hM := if_f c59 hM
            refine lv_aload_n hx hb dX8_readNumber_187 rfl (lv_at hl 3 rfl) ?_
            refine lv_iconst (v := 4) hx hb dX8_readNumber_188 (by decide) ?_
            refine lv_aload_n hx hb dX8_readNumber_189 rfl (lv_at hl 3 rfl) ?_
            refine va_get (D := D) (ci := 8) (v := .int r53.2.1) (C := RX8) (T := TX8) (N := 48) hx hb hts layX8 hown hK hP 0 rfl rfl 6 (by decide) (hts _ (inA q984)) (fun _ h9 => h9) rfl dX8_readNumber_190 ?_
            obtain ⟨r60, hcr60, hM⟩ := ob_use hM
            refine cl_V (As := [.int 4, .int r53.2.1]) (rest := []) (wM_XL cI ad o_X r60 o_N o_T o_U o_O o_E o_Q o_V o_I) [] ⟨hx, hb, hml, hown, hts⟩ (c_Model_fail l D cI sd ad o_C o_X o_N o_T o_U o_O o_E o_Q o_V o_I r53.2 4 r53.2.1 r60 hcr60) (cwV2 hts q1163 mvX8_fail rfl rfl ⟨(Nat.le_of_ble_eq_true rfl), (Nat.le_of_ble_eq_true rfl)⟩) hK hE hA hP hD hS 0 (T := TX8) (N := 48) (ci := 8) rfl rfl [0] rfl (by decide) rfl rfl rfl rfl rfl rfl hl.1 (Nat.le_of_ble_eq_true rfl) dX8_readNumber_193 ⟨Nat.zero_le _, Nat.zero_le _⟩ (fun H locs hP hD hS => ?_)
            cases hM
            exact rt_v hx hb hr hlk hP hD hS rfl dX8_readNumber_196
          · replace hM := if_t c59 hM
            refine lv_lload_n hx hb dX8_readNumber_179 rfl (lv_at hl 0 rfl) ?_
            refine lv_ldc2 (v := 2147483647) hx hb hown (hts _ (inA q1202)) dX8_readNumber_180 ?_
            refine W.lcmp hx hb dX8_readNumber_183 ?_
            refine lv_if_le (tgt := 197) hx hb dX8_readNumber_184 (by decide) (fun c61 => ?_) (fun c61 => ?_)
            · replace hM := if_t c61 hM
              refine lv_aload_n hx hb dX8_readNumber_197 rfl (lv_at hl 3 rfl) ?_
              refine lv_bipush (v := 81) hx hb dX8_readNumber_198 (by decide) ?_
              refine va_put (D := D) (ci := 8) (v := .int 81) (ty := .int) (C := RX8) (T := TX8) (N := 48) hx hb hts layX8 tyX8 tyX8_ok nmX8 hown hK hP hD hS 0 rfl rfl 7 (by decide) (hts _ (inA q985)) (fun _ h9 => h9) rfl (by decide +kernel) rfl rfl (Nat.le_of_ble_eq_true rfl) dX8_readNumber_200 (fun H locs hP hD hS => ?_)
              have hP : va_P D vwCl (wM_XL cI ad o_X (r53.2.1, 81, r53.2.2.2) o_N o_T o_U o_O o_E o_Q o_V o_I) H := hP
              have hD : va_D A (wM_XL cI ad o_X (r53.2.1, 81, r53.2.2.2) o_N o_T o_U o_O o_E o_Q o_V o_I) := hD
              refine lv_aload_n hx hb dX8_readNumber_203 rfl (lv_at hl 3 rfl) ?_
              refine lv_lload_n hx hb dX8_readNumber_204 rfl (lv_at hl 0 rfl) ?_
              refine lv_l2i hx hb dX8_readNumber_205 rfl ?_
              refine va_put (D := D) (ci := 8) (v := .int ((r2.1 * r53.1).toInt32)) (ty := .int) (C := RX8) (T := TX8) (N := 48) hx hb hts layX8 tyX8 tyX8_ok nmX8 hown hK hP hD hS 0 rfl rfl 8 (by decide) (hts _ (inA q986)) (fun _ h9 => h9) rfl (by decide +kernel) rfl rfl (Nat.le_of_ble_eq_true rfl) dX8_readNumber_206 (fun H locs hP hD hS => ?_)
              have hP : va_P D vwCl (wM_XL cI ad o_X (r53.2.1, 81, (r2.1 * r53.1).toInt32, r53.2.2.2.2) o_N o_T o_U o_O o_E o_Q o_V o_I) H := hP
              have hD : va_D A (wM_XL cI ad o_X (r53.2.1, 81, (r2.1 * r53.1).toInt32, r53.2.2.2.2) o_N o_T o_U o_O o_E o_Q o_V o_I) := hD
              cases hM
              exact rt_v hx hb hr hlk hP hD hS rfl dX8_readNumber_209
            · replace hM := if_f c61 hM
              refine lv_aload_n hx hb dX8_readNumber_187 rfl (lv_at hl 3 rfl) ?_
              refine lv_iconst (v := 4) hx hb dX8_readNumber_188 (by decide) ?_
              refine lv_aload_n hx hb dX8_readNumber_189 rfl (lv_at hl 3 rfl) ?_
              refine va_get (D := D) (ci := 8) (v := .int r53.2.1) (C := RX8) (T := TX8) (N := 48) hx hb hts layX8 hown hK hP 0 rfl rfl 6 (by decide) (hts _ (inA q984)) (fun _ h9 => h9) rfl dX8_readNumber_190 ?_
              obtain ⟨r62, hcr62, hM⟩ := ob_use hM
              refine cl_V (As := [.int 4, .int r53.2.1]) (rest := []) (wM_XL cI ad o_X r62 o_N o_T o_U o_O o_E o_Q o_V o_I) [] ⟨hx, hb, hml, hown, hts⟩ (c_Model_fail l D cI sd ad o_C o_X o_N o_T o_U o_O o_E o_Q o_V o_I r53.2 4 r53.2.1 r62 hcr62) (cwV2 hts q1163 mvX8_fail rfl rfl ⟨(Nat.le_of_ble_eq_true rfl), (Nat.le_of_ble_eq_true rfl)⟩) hK hE hA hP hD hS 0 (T := TX8) (N := 48) (ci := 8) rfl rfl [0] rfl (by decide) rfl rfl rfl rfl rfl rfl hl.1 (Nat.le_of_ble_eq_true rfl) dX8_readNumber_193 ⟨Nat.zero_le _, Nat.zero_le _⟩ (fun H locs hP hD hS => ?_)
              cases hM
              exact rt_v hx hb hr hlk hP hD hS rfl dX8_readNumber_196
  · replace hM := if_f c1 hM
    refine lv_aload_n hx hb dX8_readNumber_5 rfl (lv_at hl 0 rfl) ?_
    refine va_get (D := D) (ci := 8) (v := .int o_L.1) (C := RX8) (T := TX8) (N := 48) hx hb hts layX8 hown hK hP 0 rfl rfl 6 (by decide) (hts _ (inA q984)) (fun _ h9 => h9) rfl dX8_readNumber_6 ?_
    refine lv_iconst (v := 2) hx hb dX8_readNumber_9 (by decide) ?_
    refine lv_iadd hx hb dX8_readNumber_10 ?_
    refine lv_goto (tgt := 18) hx hb dX8_readNumber_11 (by decide) ?_
    refine va_put (D := D) (ci := 8) (v := .int (o_L.1 + 2)) (ty := .int) (C := RX8) (T := TX8) (N := 48) hx hb hts layX8 tyX8 tyX8_ok nmX8 hown hK hP hD hS 0 rfl rfl 9 (by decide) (hts _ (inA q987)) (fun _ h9 => h9) rfl (by decide +kernel) rfl rfl (Nat.le_of_ble_eq_true rfl) dX8_readNumber_18 (fun H locs hP hD hS => ?_)
    have hP : va_P D vwCl (wM_XL cI ad o_X (o_L.1, o_L.2.1, o_L.2.2.1, o_L.1 + 2, o_L.2.2.2.2) o_N o_T o_U o_O o_E o_Q o_V o_I) H := hP
    have hD : va_D A (wM_XL cI ad o_X (o_L.1, o_L.2.1, o_L.2.2.1, o_L.1 + 2, o_L.2.2.2.2) o_N o_T o_U o_O o_E o_Q o_V o_I) := hD
    refine lv_aload_n hx hb dX8_readNumber_21 rfl (lv_at hl 0 rfl) ?_
    refine lv_bipush (v := 10) hx hb dX8_readNumber_22 (by decide) ?_
    obtain ⟨r63, hcr63, hM⟩ := ob_use hM
    refine cl_V (As := [.int 10]) (rest := []) (wM_XL cI ad o_X r63.2 o_N o_T o_U o_O o_E o_Q o_V o_I) (.long r63.1 :: []) ⟨hx, hb, hml, hown, hts⟩ (c_Model_digits l D cI sd ad o_C o_N o_T o_U o_O o_E o_Q o_V o_I o_X (o_L.1, o_L.2.1, o_L.2.2.1, o_L.1 + 2, o_L.2.2.2.2) 10 r63 hcr63) (cwV2 hts q1171 mvX8_digits rfl rfl ⟨(Nat.le_of_ble_eq_true rfl), (Nat.le_of_ble_eq_true rfl)⟩) hK hE hA hP hD hS 0 (T := TX8) (N := 48) (ci := 8) rfl rfl [0, 1] rfl (by decide) rfl rfl rfl rfl rfl rfl hl.1 (Nat.le_of_ble_eq_true rfl) dX8_readNumber_24 ⟨Nat.zero_le _, Nat.zero_le _⟩ (fun H locs hP hD hS => ?_)
    refine lv_lstore_n (lv' := [(2, .long r63.1), (0, .ref (ad 100)), (1, .int a1)]) hx hb dX8_readNumber_27 rfl hl (by decide) rfl (fun ls hl => ?_)
    refine lv_lload_n hx hb dX8_readNumber_28 rfl (lv_at hl 0 rfl) ?_
    refine lv_lconst (v := 0) hx hb dX8_readNumber_29 (by decide) ?_
    refine W.lcmp hx hb dX8_readNumber_30 ?_
    refine lv_if_lt (tgt := 38) hx hb dX8_readNumber_31 (by decide) (fun c64 => ?_) (fun c64 => ?_)
    · replace hM := if_t c64 hM
      refine lv_iconst (v := 0) hx hb dX8_readNumber_38 (by decide) ?_
      refine lv_istore (lv' := [(4, .int 0), (2, .long r63.1), (0, .ref (ad 100)), (1, .int a1)]) hx hb dX8_readNumber_39 hl (by decide) rfl (fun ls hl => ?_)
      refine lv_iload_n hx hb dX8_readNumber_41 rfl (lv_at hl 3 rfl) ?_
      refine lv_if_eq (tgt := 78) hx hb dX8_readNumber_42 (by decide) (fun c65 => ?_) (fun c65 => ?_)
      · replace hM := if_t c65 hM
        refine lv_iload hx hb dX8_readNumber_78 (lv_at hl 0 rfl) ?_
        refine lv_if_eq (tgt := 163) hx hb dX8_readNumber_80 (by decide) (fun c66 => ?_) (fun c66 => False.elim (by revert c66; decide))
        refine lv_iload hx hb dX8_readNumber_163 (lv_at hl 0 rfl) ?_
        refine lv_if_eq (tgt := 187) hx hb dX8_readNumber_165 (by decide) (fun c67 => ?_) (fun c67 => False.elim (by revert c67; decide))
        refine lv_aload_n hx hb dX8_readNumber_187 rfl (lv_at hl 2 rfl) ?_
        refine lv_iconst (v := 4) hx hb dX8_readNumber_188 (by decide) ?_
        refine lv_aload_n hx hb dX8_readNumber_189 rfl (lv_at hl 2 rfl) ?_
        refine va_get (D := D) (ci := 8) (v := .int r63.2.1) (C := RX8) (T := TX8) (N := 48) hx hb hts layX8 hown hK hP 0 rfl rfl 6 (by decide) (hts _ (inA q984)) (fun _ h9 => h9) rfl dX8_readNumber_190 ?_
        obtain ⟨r68, hcr68, hM⟩ := ob_use hM
        refine cl_V (As := [.int 4, .int r63.2.1]) (rest := []) (wM_XL cI ad o_X r68 o_N o_T o_U o_O o_E o_Q o_V o_I) [] ⟨hx, hb, hml, hown, hts⟩ (c_Model_fail l D cI sd ad o_C o_X o_N o_T o_U o_O o_E o_Q o_V o_I r63.2 4 r63.2.1 r68 hcr68) (cwV2 hts q1163 mvX8_fail rfl rfl ⟨(Nat.le_of_ble_eq_true rfl), (Nat.le_of_ble_eq_true rfl)⟩) hK hE hA hP hD hS 0 (T := TX8) (N := 48) (ci := 8) rfl rfl [0] rfl (by decide) rfl rfl rfl rfl rfl rfl hl.1 (Nat.le_of_ble_eq_true rfl) dX8_readNumber_193 ⟨Nat.zero_le _, Nat.zero_le _⟩ (fun H locs hP hD hS => ?_)
        cases hM
        exact rt_v hx hb hr hlk hP hD hS rfl dX8_readNumber_196
      · replace hM := if_f c65 hM
        refine lv_iload hx hb dX8_readNumber_45 (lv_at hl 0 rfl) ?_
        refine lv_if_eq (tgt := 78) hx hb dX8_readNumber_47 (by decide) (fun c69 => ?_) (fun c69 => False.elim (by revert c69; decide))
        refine lv_iload hx hb dX8_readNumber_78 (lv_at hl 0 rfl) ?_
        refine lv_if_eq (tgt := 163) hx hb dX8_readNumber_80 (by decide) (fun c70 => ?_) (fun c70 => False.elim (by revert c70; decide))
        refine lv_iload hx hb dX8_readNumber_163 (lv_at hl 0 rfl) ?_
        refine lv_if_eq (tgt := 187) hx hb dX8_readNumber_165 (by decide) (fun c71 => ?_) (fun c71 => False.elim (by revert c71; decide))
        refine lv_aload_n hx hb dX8_readNumber_187 rfl (lv_at hl 2 rfl) ?_
        refine lv_iconst (v := 4) hx hb dX8_readNumber_188 (by decide) ?_
        refine lv_aload_n hx hb dX8_readNumber_189 rfl (lv_at hl 2 rfl) ?_
        refine va_get (D := D) (ci := 8) (v := .int r63.2.1) (C := RX8) (T := TX8) (N := 48) hx hb hts layX8 hown hK hP 0 rfl rfl 6 (by decide) (hts _ (inA q984)) (fun _ h9 => h9) rfl dX8_readNumber_190 ?_
        obtain ⟨r72, hcr72, hM⟩ := ob_use hM
        refine cl_V (As := [.int 4, .int r63.2.1]) (rest := []) (wM_XL cI ad o_X r72 o_N o_T o_U o_O o_E o_Q o_V o_I) [] ⟨hx, hb, hml, hown, hts⟩ (c_Model_fail l D cI sd ad o_C o_X o_N o_T o_U o_O o_E o_Q o_V o_I r63.2 4 r63.2.1 r72 hcr72) (cwV2 hts q1163 mvX8_fail rfl rfl ⟨(Nat.le_of_ble_eq_true rfl), (Nat.le_of_ble_eq_true rfl)⟩) hK hE hA hP hD hS 0 (T := TX8) (N := 48) (ci := 8) rfl rfl [0] rfl (by decide) rfl rfl rfl rfl rfl rfl hl.1 (Nat.le_of_ble_eq_true rfl) dX8_readNumber_193 ⟨Nat.zero_le _, Nat.zero_le _⟩ (fun H locs hP hD hS => ?_)
        cases hM
        exact rt_v hx hb hr hlk hP hD hS rfl dX8_readNumber_196
    · replace hM := if_f c64 hM
      refine lv_iconst (v := 1) hx hb dX8_readNumber_34 (by decide) ?_
      refine lv_goto (tgt := 39) hx hb dX8_readNumber_35 (by decide) ?_
      refine lv_istore (lv' := [(4, .int 1), (2, .long r63.1), (0, .ref (ad 100)), (1, .int a1)]) hx hb dX8_readNumber_39 hl (by decide) rfl (fun ls hl => ?_)
      refine lv_iload_n hx hb dX8_readNumber_41 rfl (lv_at hl 3 rfl) ?_
      refine lv_if_eq (tgt := 78) hx hb dX8_readNumber_42 (by decide) (fun c73 => ?_) (fun c73 => ?_)
      · replace hM := if_t c73 hM
        refine lv_iload hx hb dX8_readNumber_78 (lv_at hl 0 rfl) ?_
        refine lv_if_eq (tgt := 163) hx hb dX8_readNumber_80 (by decide) (fun c74 => False.elim (by revert c74; decide)) (fun c74 => ?_)
        refine lv_aload_n hx hb dX8_readNumber_83 rfl (lv_at hl 2 rfl) ?_
        refine lv_aload_n hx hb dX8_readNumber_84 rfl (lv_at hl 2 rfl) ?_
        refine va_get (D := D) (ci := 8) (v := .int r63.2.2.2.2.1) (C := RX8) (T := TX8) (N := 48) hx hb hts layX8 hown hK hP 0 rfl rfl 9 (by decide) (hts _ (inA q987)) (fun _ h9 => h9) rfl dX8_readNumber_85 ?_
        obtain ⟨r75, hcr75, hM⟩ := ob_use hM
        refine cl_V (As := [.int r63.2.2.2.2.1]) (rest := []) (wM_XL cI ad o_X r63.2 o_N o_T o_U o_O o_E o_Q o_V o_I) (.int r75 :: []) ⟨hx, hb, hml, hown, hts⟩ (c_Model_at l D cI sd ad o_C r63.2 o_N o_T o_U o_O o_E o_Q o_V o_I o_X r63.2.2.2.2.1 r75 hcr75) (cwV2 hts q1159 mvX8_at rfl rfl ⟨(Nat.le_of_ble_eq_true rfl), (Nat.le_of_ble_eq_true rfl)⟩) hK hE hA hP hD hS 0 (T := TX8) (N := 48) (ci := 8) rfl rfl [0, 1] rfl (by decide) rfl rfl rfl rfl rfl rfl hl.1 (Nat.le_of_ble_eq_true rfl) dX8_readNumber_88 ⟨Nat.zero_le _, Nat.zero_le _⟩ (fun H locs hP hD hS => ?_)
        refine lv_bipush (v := 35) hx hb dX8_readNumber_91 (by decide) ?_
        refine lv_icmp_ne (tgt := 163) hx hb dX8_readNumber_93 (by decide) (fun c76 => ?_) (fun c76 => ?_)
        · replace hM := if_f c76 hM
          refine lv_iload hx hb dX8_readNumber_163 (lv_at hl 0 rfl) ?_
          refine lv_if_eq (tgt := 187) hx hb dX8_readNumber_165 (by decide) (fun c77 => False.elim (by revert c77; decide)) (fun c77 => ?_)
          refine lv_aload_n hx hb dX8_readNumber_168 rfl (lv_at hl 2 rfl) ?_
          refine lv_aload_n hx hb dX8_readNumber_169 rfl (lv_at hl 2 rfl) ?_
          refine va_get (D := D) (ci := 8) (v := .int r63.2.2.2.2.1) (C := RX8) (T := TX8) (N := 48) hx hb hts layX8 hown hK hP 0 rfl rfl 9 (by decide) (hts _ (inA q987)) (fun _ h9 => h9) rfl dX8_readNumber_170 ?_
          obtain ⟨r78, hcr78, hM⟩ := ob_use hM
          refine cl_V (As := [.int r63.2.2.2.2.1]) (rest := []) (wM_XL cI ad o_X r63.2 o_N o_T o_U o_O o_E o_Q o_V o_I) (.int r78 :: []) ⟨hx, hb, hml, hown, hts⟩ (c_Model_goesOn l D cI sd ad o_C r63.2 o_N o_T o_U o_O o_E o_Q o_V o_I o_X r63.2.2.2.2.1 r78 hcr78) (cwV2 hts q1195 mvX8_goesOn rfl rfl ⟨(Nat.le_of_ble_eq_true rfl), (Nat.le_of_ble_eq_true rfl)⟩) hK hE hA hP hD hS 0 (T := TX8) (N := 48) (ci := 8) rfl rfl [0, 1] rfl (by decide) rfl rfl rfl rfl rfl rfl hl.1 (Nat.le_of_ble_eq_true rfl) dX8_readNumber_173 ⟨Nat.zero_le _, Nat.zero_le _⟩ (fun H locs hP hD hS => ?_)
          refine lv_if_ne (tgt := 187) hx hb dX8_readNumber_176 (by decide) (fun c79 => ?_) (fun c79 => ?_)
          · replace hM := if_f c79 hM
            refine lv_aload_n hx hb dX8_readNumber_187 rfl (lv_at hl 2 rfl) ?_
            refine lv_iconst (v := 4) hx hb dX8_readNumber_188 (by decide) ?_
            refine lv_aload_n hx hb dX8_readNumber_189 rfl (lv_at hl 2 rfl) ?_
            refine va_get (D := D) (ci := 8) (v := .int r63.2.1) (C := RX8) (T := TX8) (N := 48) hx hb hts layX8 hown hK hP 0 rfl rfl 6 (by decide) (hts _ (inA q984)) (fun _ h9 => h9) rfl dX8_readNumber_190 ?_
            obtain ⟨r80, hcr80, hM⟩ := ob_use hM
            refine cl_V (As := [.int 4, .int r63.2.1]) (rest := []) (wM_XL cI ad o_X r80 o_N o_T o_U o_O o_E o_Q o_V o_I) [] ⟨hx, hb, hml, hown, hts⟩ (c_Model_fail l D cI sd ad o_C o_X o_N o_T o_U o_O o_E o_Q o_V o_I r63.2 4 r63.2.1 r80 hcr80) (cwV2 hts q1163 mvX8_fail rfl rfl ⟨(Nat.le_of_ble_eq_true rfl), (Nat.le_of_ble_eq_true rfl)⟩) hK hE hA hP hD hS 0 (T := TX8) (N := 48) (ci := 8) rfl rfl [0] rfl (by decide) rfl rfl rfl rfl rfl rfl hl.1 (Nat.le_of_ble_eq_true rfl) dX8_readNumber_193 ⟨Nat.zero_le _, Nat.zero_le _⟩ (fun H locs hP hD hS => ?_)
            cases hM
            exact rt_v hx hb hr hlk hP hD hS rfl dX8_readNumber_196
          · replace hM := if_t c79 hM
            refine lv_lload_n hx hb dX8_readNumber_179 rfl (lv_at hl 1 rfl) ?_
            refine lv_ldc2 (v := 2147483647) hx hb hown (hts _ (inA q1202)) dX8_readNumber_180 ?_
            refine W.lcmp hx hb dX8_readNumber_183 ?_
            refine lv_if_le (tgt := 197) hx hb dX8_readNumber_184 (by decide) (fun c81 => ?_) (fun c81 => ?_)
            · replace hM := if_t c81 hM
              refine lv_aload_n hx hb dX8_readNumber_197 rfl (lv_at hl 2 rfl) ?_
              refine lv_bipush (v := 81) hx hb dX8_readNumber_198 (by decide) ?_
              refine va_put (D := D) (ci := 8) (v := .int 81) (ty := .int) (C := RX8) (T := TX8) (N := 48) hx hb hts layX8 tyX8 tyX8_ok nmX8 hown hK hP hD hS 0 rfl rfl 7 (by decide) (hts _ (inA q985)) (fun _ h9 => h9) rfl (by decide +kernel) rfl rfl (Nat.le_of_ble_eq_true rfl) dX8_readNumber_200 (fun H locs hP hD hS => ?_)
              have hP : va_P D vwCl (wM_XL cI ad o_X (r63.2.1, 81, r63.2.2.2) o_N o_T o_U o_O o_E o_Q o_V o_I) H := hP
              have hD : va_D A (wM_XL cI ad o_X (r63.2.1, 81, r63.2.2.2) o_N o_T o_U o_O o_E o_Q o_V o_I) := hD
              refine lv_aload_n hx hb dX8_readNumber_203 rfl (lv_at hl 2 rfl) ?_
              refine lv_lload_n hx hb dX8_readNumber_204 rfl (lv_at hl 1 rfl) ?_
              refine lv_l2i hx hb dX8_readNumber_205 rfl ?_
              refine va_put (D := D) (ci := 8) (v := .int r63.1.toInt32) (ty := .int) (C := RX8) (T := TX8) (N := 48) hx hb hts layX8 tyX8 tyX8_ok nmX8 hown hK hP hD hS 0 rfl rfl 8 (by decide) (hts _ (inA q986)) (fun _ h9 => h9) rfl (by decide +kernel) rfl rfl (Nat.le_of_ble_eq_true rfl) dX8_readNumber_206 (fun H locs hP hD hS => ?_)
              have hP : va_P D vwCl (wM_XL cI ad o_X (r63.2.1, 81, r63.1.toInt32, r63.2.2.2.2) o_N o_T o_U o_O o_E o_Q o_V o_I) H := hP
              have hD : va_D A (wM_XL cI ad o_X (r63.2.1, 81, r63.1.toInt32, r63.2.2.2.2) o_N o_T o_U o_O o_E o_Q o_V o_I) := hD
              cases hM
              exact rt_v hx hb hr hlk hP hD hS rfl dX8_readNumber_209
            · replace hM := if_f c81 hM
              refine lv_aload_n hx hb dX8_readNumber_187 rfl (lv_at hl 2 rfl) ?_
              refine lv_iconst (v := 4) hx hb dX8_readNumber_188 (by decide) ?_
              refine lv_aload_n hx hb dX8_readNumber_189 rfl (lv_at hl 2 rfl) ?_
              refine va_get (D := D) (ci := 8) (v := .int r63.2.1) (C := RX8) (T := TX8) (N := 48) hx hb hts layX8 hown hK hP 0 rfl rfl 6 (by decide) (hts _ (inA q984)) (fun _ h9 => h9) rfl dX8_readNumber_190 ?_
              obtain ⟨r82, hcr82, hM⟩ := ob_use hM
              refine cl_V (As := [.int 4, .int r63.2.1]) (rest := []) (wM_XL cI ad o_X r82 o_N o_T o_U o_O o_E o_Q o_V o_I) [] ⟨hx, hb, hml, hown, hts⟩ (c_Model_fail l D cI sd ad o_C o_X o_N o_T o_U o_O o_E o_Q o_V o_I r63.2 4 r63.2.1 r82 hcr82) (cwV2 hts q1163 mvX8_fail rfl rfl ⟨(Nat.le_of_ble_eq_true rfl), (Nat.le_of_ble_eq_true rfl)⟩) hK hE hA hP hD hS 0 (T := TX8) (N := 48) (ci := 8) rfl rfl [0] rfl (by decide) rfl rfl rfl rfl rfl rfl hl.1 (Nat.le_of_ble_eq_true rfl) dX8_readNumber_193 ⟨Nat.zero_le _, Nat.zero_le _⟩ (fun H locs hP hD hS => ?_)
              cases hM
              exact rt_v hx hb hr hlk hP hD hS rfl dX8_readNumber_196
        · replace hM := if_t c76 hM
          refine lv_aload_n hx hb dX8_readNumber_96 rfl (lv_at hl 2 rfl) ?_
          refine lv_dup hx hb dX8_readNumber_97 rfl ?_
          refine va_get (D := D) (ci := 8) (v := .int r63.2.2.2.2.1) (C := RX8) (T := TX8) (N := 48) hx hb hts layX8 hown hK hP 0 rfl rfl 9 (by decide) (hts _ (inA q987)) (fun _ h9 => h9) rfl dX8_readNumber_98 ?_
          refine lv_iconst (v := 1) hx hb dX8_readNumber_101 (by decide) ?_
          refine lv_iadd hx hb dX8_readNumber_102 ?_
          refine va_put (D := D) (ci := 8) (v := .int (r63.2.2.2.2.1 + 1)) (ty := .int) (C := RX8) (T := TX8) (N := 48) hx hb hts layX8 tyX8 tyX8_ok nmX8 hown hK hP hD hS 0 rfl rfl 9 (by decide) (hts _ (inA q987)) (fun _ h9 => h9) rfl (by decide +kernel) rfl rfl (Nat.le_of_ble_eq_true rfl) dX8_readNumber_103 (fun H locs hP hD hS => ?_)
          have hP : va_P D vwCl (wM_XL cI ad o_X (r63.2.1, r63.2.2.1, r63.2.2.2.1, r63.2.2.2.2.1 + 1, r63.2.2.2.2.2) o_N o_T o_U o_O o_E o_Q o_V o_I) H := hP
          have hD : va_D A (wM_XL cI ad o_X (r63.2.1, r63.2.2.1, r63.2.2.2.1, r63.2.2.2.2.1 + 1, r63.2.2.2.2.2) o_N o_T o_U o_O o_E o_Q o_V o_I) := hD
          refine lv_lload_n hx hb dX8_readNumber_106 rfl (lv_at hl 1 rfl) ?_
          refine lv_ldc2 (v := 16) hx hb hown (hts _ (inA q1193)) dX8_readNumber_107 ?_
          refine W.lcmp hx hb dX8_readNumber_110 ?_
          refine lv_if_eq (tgt := 122) hx hb dX8_readNumber_111 (by decide) (fun c83 => ?_) (fun c83 => ?_)
          · replace hM := if_t c83 hM
            refine lv_iconst (v := 1) hx hb dX8_readNumber_122 (by decide) ?_
            refine lv_goto (tgt := 127) hx hb dX8_readNumber_123 (by decide) ?_
            refine lv_istore (lv' := [(4, .int 1), (2, .long r63.1), (0, .ref (ad 100)), (1, .int a1)]) hx hb dX8_readNumber_127 hl (by decide) rfl (fun ls hl => ?_)
            refine lv_iload hx hb dX8_readNumber_129 (lv_at hl 0 rfl) ?_
            refine lv_if_eq (tgt := 143) hx hb dX8_readNumber_131 (by decide) (fun c84 => False.elim (by revert c84; decide)) (fun c84 => ?_)
            refine lv_aload_n hx hb dX8_readNumber_134 rfl (lv_at hl 2 rfl) ?_
            refine lv_lload_n hx hb dX8_readNumber_135 rfl (lv_at hl 1 rfl) ?_
            refine lv_l2i hx hb dX8_readNumber_136 rfl ?_
            obtain ⟨r85, hcr85, hM⟩ := ob_use hM
            refine cl_V (As := [.int r63.1.toInt32]) (rest := []) (wM_XL cI ad o_X r85.2 o_N o_T o_U o_O o_E o_Q o_V o_I) (.long r85.1 :: []) ⟨hx, hb, hml, hown, hts⟩ (c_Model_digits l D cI sd ad o_C o_N o_T o_U o_O o_E o_Q o_V o_I o_X (r63.2.1, r63.2.2.1, r63.2.2.2.1, r63.2.2.2.2.1 + 1, r63.2.2.2.2.2) r63.1.toInt32 r85 hcr85) (cwV2 hts q1171 mvX8_digits rfl rfl ⟨(Nat.le_of_ble_eq_true rfl), (Nat.le_of_ble_eq_true rfl)⟩) hK hE hA hP hD hS 0 (T := TX8) (N := 48) (ci := 8) rfl rfl [0, 1] rfl (by decide) rfl rfl rfl rfl rfl rfl hl.1 (Nat.le_of_ble_eq_true rfl) dX8_readNumber_137 ⟨Nat.zero_le _, Nat.zero_le _⟩ (fun H locs hP hD hS => ?_)
            refine lv_goto (tgt := 144) hx hb dX8_readNumber_140 (by decide) ?_
            refine lv_lstore_n (lv' := [(2, .long r85.1), (4, .int 1), (0, .ref (ad 100)), (1, .int a1)]) hx hb dX8_readNumber_144 rfl hl (by decide) rfl (fun ls hl => ?_)
            refine lv_iload hx hb dX8_readNumber_145 (lv_at hl 1 rfl) ?_
            refine lv_if_eq (tgt := 160) hx hb dX8_readNumber_147 (by decide) (fun c86 => False.elim (by revert c86; decide)) (fun c86 => ?_)
            refine lv_lload_n hx hb dX8_readNumber_150 rfl (lv_at hl 0 rfl) ?_
            refine lv_lconst (v := 0) hx hb dX8_readNumber_151 (by decide) ?_
            refine W.lcmp hx hb dX8_readNumber_152 ?_
            refine lv_if_lt (tgt := 160) hx hb dX8_readNumber_153 (by decide) (fun c87 => ?_) (fun c87 => ?_)
            · replace hM := if_t c87 hM
              refine lv_iconst (v := 0) hx hb dX8_readNumber_160 (by decide) ?_
              refine lv_istore (lv' := [(4, .int 0), (2, .long r85.1), (0, .ref (ad 100)), (1, .int a1)]) hx hb dX8_readNumber_161 hl (by decide) rfl (fun ls hl => ?_)
              refine lv_iload hx hb dX8_readNumber_163 (lv_at hl 0 rfl) ?_
              refine lv_if_eq (tgt := 187) hx hb dX8_readNumber_165 (by decide) (fun c88 => ?_) (fun c88 => False.elim (by revert c88; decide))
              refine lv_aload_n hx hb dX8_readNumber_187 rfl (lv_at hl 2 rfl) ?_
              refine lv_iconst (v := 4) hx hb dX8_readNumber_188 (by decide) ?_
              refine lv_aload_n hx hb dX8_readNumber_189 rfl (lv_at hl 2 rfl) ?_
              refine va_get (D := D) (ci := 8) (v := .int r85.2.1) (C := RX8) (T := TX8) (N := 48) hx hb hts layX8 hown hK hP 0 rfl rfl 6 (by decide) (hts _ (inA q984)) (fun _ h9 => h9) rfl dX8_readNumber_190 ?_
              obtain ⟨r89, hcr89, hM⟩ := ob_use hM
              refine cl_V (As := [.int 4, .int r85.2.1]) (rest := []) (wM_XL cI ad o_X r89 o_N o_T o_U o_O o_E o_Q o_V o_I) [] ⟨hx, hb, hml, hown, hts⟩ (c_Model_fail l D cI sd ad o_C o_X o_N o_T o_U o_O o_E o_Q o_V o_I r85.2 4 r85.2.1 r89 hcr89) (cwV2 hts q1163 mvX8_fail rfl rfl ⟨(Nat.le_of_ble_eq_true rfl), (Nat.le_of_ble_eq_true rfl)⟩) hK hE hA hP hD hS 0 (T := TX8) (N := 48) (ci := 8) rfl rfl [0] rfl (by decide) rfl rfl rfl rfl rfl rfl hl.1 (Nat.le_of_ble_eq_true rfl) dX8_readNumber_193 ⟨Nat.zero_le _, Nat.zero_le _⟩ (fun H locs hP hD hS => ?_)
              cases hM
              exact rt_v hx hb hr hlk hP hD hS rfl dX8_readNumber_196
            · replace hM := if_f c87 hM
              refine lv_iconst (v := 1) hx hb dX8_readNumber_156 (by decide) ?_
              refine lv_goto (tgt := 161) hx hb dX8_readNumber_157 (by decide) ?_
              refine lv_istore (lv' := [(4, .int 1), (2, .long r85.1), (0, .ref (ad 100)), (1, .int a1)]) hx hb dX8_readNumber_161 hl (by decide) rfl (fun ls hl => ?_)
              refine lv_iload hx hb dX8_readNumber_163 (lv_at hl 0 rfl) ?_
              refine lv_if_eq (tgt := 187) hx hb dX8_readNumber_165 (by decide) (fun c90 => False.elim (by revert c90; decide)) (fun c90 => ?_)
              refine lv_aload_n hx hb dX8_readNumber_168 rfl (lv_at hl 2 rfl) ?_
              refine lv_aload_n hx hb dX8_readNumber_169 rfl (lv_at hl 2 rfl) ?_
              refine va_get (D := D) (ci := 8) (v := .int r85.2.2.2.2.1) (C := RX8) (T := TX8) (N := 48) hx hb hts layX8 hown hK hP 0 rfl rfl 9 (by decide) (hts _ (inA q987)) (fun _ h9 => h9) rfl dX8_readNumber_170 ?_
              obtain ⟨r91, hcr91, hM⟩ := ob_use hM
              refine cl_V (As := [.int r85.2.2.2.2.1]) (rest := []) (wM_XL cI ad o_X r85.2 o_N o_T o_U o_O o_E o_Q o_V o_I) (.int r91 :: []) ⟨hx, hb, hml, hown, hts⟩ (c_Model_goesOn l D cI sd ad o_C r85.2 o_N o_T o_U o_O o_E o_Q o_V o_I o_X r85.2.2.2.2.1 r91 hcr91) (cwV2 hts q1195 mvX8_goesOn rfl rfl ⟨(Nat.le_of_ble_eq_true rfl), (Nat.le_of_ble_eq_true rfl)⟩) hK hE hA hP hD hS 0 (T := TX8) (N := 48) (ci := 8) rfl rfl [0, 1] rfl (by decide) rfl rfl rfl rfl rfl rfl hl.1 (Nat.le_of_ble_eq_true rfl) dX8_readNumber_173 ⟨Nat.zero_le _, Nat.zero_le _⟩ (fun H locs hP hD hS => ?_)
              refine lv_if_ne (tgt := 187) hx hb dX8_readNumber_176 (by decide) (fun c92 => ?_) (fun c92 => ?_)
              · replace hM := if_f c92 hM
                refine lv_aload_n hx hb dX8_readNumber_187 rfl (lv_at hl 2 rfl) ?_
                refine lv_iconst (v := 4) hx hb dX8_readNumber_188 (by decide) ?_
                refine lv_aload_n hx hb dX8_readNumber_189 rfl (lv_at hl 2 rfl) ?_
                refine va_get (D := D) (ci := 8) (v := .int r85.2.1) (C := RX8) (T := TX8) (N := 48) hx hb hts layX8 hown hK hP 0 rfl rfl 6 (by decide) (hts _ (inA q984)) (fun _ h9 => h9) rfl dX8_readNumber_190 ?_
                obtain ⟨r93, hcr93, hM⟩ := ob_use hM
                refine cl_V (As := [.int 4, .int r85.2.1]) (rest := []) (wM_XL cI ad o_X r93 o_N o_T o_U o_O o_E o_Q o_V o_I) [] ⟨hx, hb, hml, hown, hts⟩ (c_Model_fail l D cI sd ad o_C o_X o_N o_T o_U o_O o_E o_Q o_V o_I r85.2 4 r85.2.1 r93 hcr93) (cwV2 hts q1163 mvX8_fail rfl rfl ⟨(Nat.le_of_ble_eq_true rfl), (Nat.le_of_ble_eq_true rfl)⟩) hK hE hA hP hD hS 0 (T := TX8) (N := 48) (ci := 8) rfl rfl [0] rfl (by decide) rfl rfl rfl rfl rfl rfl hl.1 (Nat.le_of_ble_eq_true rfl) dX8_readNumber_193 ⟨Nat.zero_le _, Nat.zero_le _⟩ (fun H locs hP hD hS => ?_)
                cases hM
                exact rt_v hx hb hr hlk hP hD hS rfl dX8_readNumber_196
              · replace hM := if_t c92 hM
                refine lv_lload_n hx hb dX8_readNumber_179 rfl (lv_at hl 1 rfl) ?_
                refine lv_ldc2 (v := 2147483647) hx hb hown (hts _ (inA q1202)) dX8_readNumber_180 ?_
                refine W.lcmp hx hb dX8_readNumber_183 ?_
                refine lv_if_le (tgt := 197) hx hb dX8_readNumber_184 (by decide) (fun c94 => ?_) (fun c94 => ?_)
                · replace hM := if_t c94 hM
                  refine lv_aload_n hx hb dX8_readNumber_197 rfl (lv_at hl 2 rfl) ?_
                  refine lv_bipush (v := 81) hx hb dX8_readNumber_198 (by decide) ?_
                  refine va_put (D := D) (ci := 8) (v := .int 81) (ty := .int) (C := RX8) (T := TX8) (N := 48) hx hb hts layX8 tyX8 tyX8_ok nmX8 hown hK hP hD hS 0 rfl rfl 7 (by decide) (hts _ (inA q985)) (fun _ h9 => h9) rfl (by decide +kernel) rfl rfl (Nat.le_of_ble_eq_true rfl) dX8_readNumber_200 (fun H locs hP hD hS => ?_)
                  have hP : va_P D vwCl (wM_XL cI ad o_X (r85.2.1, 81, r85.2.2.2) o_N o_T o_U o_O o_E o_Q o_V o_I) H := hP
                  have hD : va_D A (wM_XL cI ad o_X (r85.2.1, 81, r85.2.2.2) o_N o_T o_U o_O o_E o_Q o_V o_I) := hD
                  refine lv_aload_n hx hb dX8_readNumber_203 rfl (lv_at hl 2 rfl) ?_
                  refine lv_lload_n hx hb dX8_readNumber_204 rfl (lv_at hl 1 rfl) ?_
                  refine lv_l2i hx hb dX8_readNumber_205 rfl ?_
                  refine va_put (D := D) (ci := 8) (v := .int r85.1.toInt32) (ty := .int) (C := RX8) (T := TX8) (N := 48) hx hb hts layX8 tyX8 tyX8_ok nmX8 hown hK hP hD hS 0 rfl rfl 8 (by decide) (hts _ (inA q986)) (fun _ h9 => h9) rfl (by decide +kernel) rfl rfl (Nat.le_of_ble_eq_true rfl) dX8_readNumber_206 (fun H locs hP hD hS => ?_)
                  have hP : va_P D vwCl (wM_XL cI ad o_X (r85.2.1, 81, r85.1.toInt32, r85.2.2.2.2) o_N o_T o_U o_O o_E o_Q o_V o_I) H := hP
                  have hD : va_D A (wM_XL cI ad o_X (r85.2.1, 81, r85.1.toInt32, r85.2.2.2.2) o_N o_T o_U o_O o_E o_Q o_V o_I) := hD
                  cases hM
                  exact rt_v hx hb hr hlk hP hD hS rfl dX8_readNumber_209
                · replace hM := if_f c94 hM
                  refine lv_aload_n hx hb dX8_readNumber_187 rfl (lv_at hl 2 rfl) ?_
                  refine lv_iconst (v := 4) hx hb dX8_readNumber_188 (by decide) ?_
                  refine lv_aload_n hx hb dX8_readNumber_189 rfl (lv_at hl 2 rfl) ?_
                  refine va_get (D := D) (ci := 8) (v := .int r85.2.1) (C := RX8) (T := TX8) (N := 48) hx hb hts layX8 hown hK hP 0 rfl rfl 6 (by decide) (hts _ (inA q984)) (fun _ h9 => h9) rfl dX8_readNumber_190 ?_
                  obtain ⟨r95, hcr95, hM⟩ := ob_use hM
                  refine cl_V (As := [.int 4, .int r85.2.1]) (rest := []) (wM_XL cI ad o_X r95 o_N o_T o_U o_O o_E o_Q o_V o_I) [] ⟨hx, hb, hml, hown, hts⟩ (c_Model_fail l D cI sd ad o_C o_X o_N o_T o_U o_O o_E o_Q o_V o_I r85.2 4 r85.2.1 r95 hcr95) (cwV2 hts q1163 mvX8_fail rfl rfl ⟨(Nat.le_of_ble_eq_true rfl), (Nat.le_of_ble_eq_true rfl)⟩) hK hE hA hP hD hS 0 (T := TX8) (N := 48) (ci := 8) rfl rfl [0] rfl (by decide) rfl rfl rfl rfl rfl rfl hl.1 (Nat.le_of_ble_eq_true rfl) dX8_readNumber_193 ⟨Nat.zero_le _, Nat.zero_le _⟩ (fun H locs hP hD hS => ?_)
                  cases hM
                  exact rt_v hx hb hr hlk hP hD hS rfl dX8_readNumber_196
          · replace hM := if_f c83 hM
            refine lv_lload_n hx hb dX8_readNumber_114 rfl (lv_at hl 1 rfl) ?_
            refine lv_ldc2 (v := 2) hx hb hown (hts _ (inA q1194)) dX8_readNumber_115 ?_
            refine W.lcmp hx hb dX8_readNumber_118 ?_
            refine lv_if_ne (tgt := 126) hx hb dX8_readNumber_119 (by decide) (fun c96 => ?_) (fun c96 => ?_)
            · replace hM := if_f c96 hM
              refine lv_iconst (v := 0) hx hb dX8_readNumber_126 (by decide) ?_
              refine lv_istore (lv' := [(4, .int 0), (2, .long r63.1), (0, .ref (ad 100)), (1, .int a1)]) hx hb dX8_readNumber_127 hl (by decide) rfl (fun ls hl => ?_)
              refine lv_iload hx hb dX8_readNumber_129 (lv_at hl 0 rfl) ?_
              refine lv_if_eq (tgt := 143) hx hb dX8_readNumber_131 (by decide) (fun c97 => ?_) (fun c97 => False.elim (by revert c97; decide))
              refine lv_lload_n hx hb dX8_readNumber_143 rfl (lv_at hl 1 rfl) ?_
              refine lv_lstore_n (lv' := [(2, .long r63.1), (4, .int 0), (0, .ref (ad 100)), (1, .int a1)]) hx hb dX8_readNumber_144 rfl hl (by decide) rfl (fun ls hl => ?_)
              refine lv_iload hx hb dX8_readNumber_145 (lv_at hl 1 rfl) ?_
              refine lv_if_eq (tgt := 160) hx hb dX8_readNumber_147 (by decide) (fun c98 => ?_) (fun c98 => False.elim (by revert c98; decide))
              refine lv_iconst (v := 0) hx hb dX8_readNumber_160 (by decide) ?_
              refine lv_istore (lv' := [(4, .int 0), (2, .long r63.1), (0, .ref (ad 100)), (1, .int a1)]) hx hb dX8_readNumber_161 hl (by decide) rfl (fun ls hl => ?_)
              refine lv_iload hx hb dX8_readNumber_163 (lv_at hl 0 rfl) ?_
              refine lv_if_eq (tgt := 187) hx hb dX8_readNumber_165 (by decide) (fun c99 => ?_) (fun c99 => False.elim (by revert c99; decide))
              refine lv_aload_n hx hb dX8_readNumber_187 rfl (lv_at hl 2 rfl) ?_
              refine lv_iconst (v := 4) hx hb dX8_readNumber_188 (by decide) ?_
              refine lv_aload_n hx hb dX8_readNumber_189 rfl (lv_at hl 2 rfl) ?_
              refine va_get (D := D) (ci := 8) (v := .int r63.2.1) (C := RX8) (T := TX8) (N := 48) hx hb hts layX8 hown hK hP 0 rfl rfl 6 (by decide) (hts _ (inA q984)) (fun _ h9 => h9) rfl dX8_readNumber_190 ?_
              obtain ⟨r100, hcr100, hM⟩ := ob_use hM
              refine cl_V (As := [.int 4, .int r63.2.1]) (rest := []) (wM_XL cI ad o_X r100 o_N o_T o_U o_O o_E o_Q o_V o_I) [] ⟨hx, hb, hml, hown, hts⟩ (c_Model_fail l D cI sd ad o_C o_X o_N o_T o_U o_O o_E o_Q o_V o_I (r63.2.1, r63.2.2.1, r63.2.2.2.1, r63.2.2.2.2.1 + 1, r63.2.2.2.2.2) 4 r63.2.1 r100 hcr100) (cwV2 hts q1163 mvX8_fail rfl rfl ⟨(Nat.le_of_ble_eq_true rfl), (Nat.le_of_ble_eq_true rfl)⟩) hK hE hA hP hD hS 0 (T := TX8) (N := 48) (ci := 8) rfl rfl [0] rfl (by decide) rfl rfl rfl rfl rfl rfl hl.1 (Nat.le_of_ble_eq_true rfl) dX8_readNumber_193 ⟨Nat.zero_le _, Nat.zero_le _⟩ (fun H locs hP hD hS => ?_)
              cases hM
              exact rt_v hx hb hr hlk hP hD hS rfl dX8_readNumber_196
            · replace hM := if_t c96 hM
              refine lv_iconst (v := 1) hx hb dX8_readNumber_122 (by decide) ?_
              refine lv_goto (tgt := 127) hx hb dX8_readNumber_123 (by decide) ?_
              refine lv_istore (lv' := [(4, .int 1), (2, .long r63.1), (0, .ref (ad 100)), (1, .int a1)]) hx hb dX8_readNumber_127 hl (by decide) rfl (fun ls hl => ?_)
              refine lv_iload hx hb dX8_readNumber_129 (lv_at hl 0 rfl) ?_
              refine lv_if_eq (tgt := 143) hx hb dX8_readNumber_131 (by decide) (fun c101 => False.elim (by revert c101; decide)) (fun c101 => ?_)
              refine lv_aload_n hx hb dX8_readNumber_134 rfl (lv_at hl 2 rfl) ?_
              refine lv_lload_n hx hb dX8_readNumber_135 rfl (lv_at hl 1 rfl) ?_
              refine lv_l2i hx hb dX8_readNumber_136 rfl ?_
              obtain ⟨r102, hcr102, hM⟩ := ob_use hM
              refine cl_V (As := [.int r63.1.toInt32]) (rest := []) (wM_XL cI ad o_X r102.2 o_N o_T o_U o_O o_E o_Q o_V o_I) (.long r102.1 :: []) ⟨hx, hb, hml, hown, hts⟩ (c_Model_digits l D cI sd ad o_C o_N o_T o_U o_O o_E o_Q o_V o_I o_X (r63.2.1, r63.2.2.1, r63.2.2.2.1, r63.2.2.2.2.1 + 1, r63.2.2.2.2.2) r63.1.toInt32 r102 hcr102) (cwV2 hts q1171 mvX8_digits rfl rfl ⟨(Nat.le_of_ble_eq_true rfl), (Nat.le_of_ble_eq_true rfl)⟩) hK hE hA hP hD hS 0 (T := TX8) (N := 48) (ci := 8) rfl rfl [0, 1] rfl (by decide) rfl rfl rfl rfl rfl rfl hl.1 (Nat.le_of_ble_eq_true rfl) dX8_readNumber_137 ⟨Nat.zero_le _, Nat.zero_le _⟩ (fun H locs hP hD hS => ?_)
              refine lv_goto (tgt := 144) hx hb dX8_readNumber_140 (by decide) ?_
              refine lv_lstore_n (lv' := [(2, .long r102.1), (4, .int 1), (0, .ref (ad 100)), (1, .int a1)]) hx hb dX8_readNumber_144 rfl hl (by decide) rfl (fun ls hl => ?_)
              refine lv_iload hx hb dX8_readNumber_145 (lv_at hl 1 rfl) ?_
              refine lv_if_eq (tgt := 160) hx hb dX8_readNumber_147 (by decide) (fun c103 => False.elim (by revert c103; decide)) (fun c103 => ?_)
              refine lv_lload_n hx hb dX8_readNumber_150 rfl (lv_at hl 0 rfl) ?_
              refine lv_lconst (v := 0) hx hb dX8_readNumber_151 (by decide) ?_
              refine W.lcmp hx hb dX8_readNumber_152 ?_
              refine lv_if_lt (tgt := 160) hx hb dX8_readNumber_153 (by decide) (fun c104 => ?_) (fun c104 => ?_)
              · replace hM := if_t c104 hM
                refine lv_iconst (v := 0) hx hb dX8_readNumber_160 (by decide) ?_
                refine lv_istore (lv' := [(4, .int 0), (2, .long r102.1), (0, .ref (ad 100)), (1, .int a1)]) hx hb dX8_readNumber_161 hl (by decide) rfl (fun ls hl => ?_)
                refine lv_iload hx hb dX8_readNumber_163 (lv_at hl 0 rfl) ?_
                refine lv_if_eq (tgt := 187) hx hb dX8_readNumber_165 (by decide) (fun c105 => ?_) (fun c105 => False.elim (by revert c105; decide))
                refine lv_aload_n hx hb dX8_readNumber_187 rfl (lv_at hl 2 rfl) ?_
                refine lv_iconst (v := 4) hx hb dX8_readNumber_188 (by decide) ?_
                refine lv_aload_n hx hb dX8_readNumber_189 rfl (lv_at hl 2 rfl) ?_
                refine va_get (D := D) (ci := 8) (v := .int r102.2.1) (C := RX8) (T := TX8) (N := 48) hx hb hts layX8 hown hK hP 0 rfl rfl 6 (by decide) (hts _ (inA q984)) (fun _ h9 => h9) rfl dX8_readNumber_190 ?_
                obtain ⟨r106, hcr106, hM⟩ := ob_use hM
                refine cl_V (As := [.int 4, .int r102.2.1]) (rest := []) (wM_XL cI ad o_X r106 o_N o_T o_U o_O o_E o_Q o_V o_I) [] ⟨hx, hb, hml, hown, hts⟩ (c_Model_fail l D cI sd ad o_C o_X o_N o_T o_U o_O o_E o_Q o_V o_I r102.2 4 r102.2.1 r106 hcr106) (cwV2 hts q1163 mvX8_fail rfl rfl ⟨(Nat.le_of_ble_eq_true rfl), (Nat.le_of_ble_eq_true rfl)⟩) hK hE hA hP hD hS 0 (T := TX8) (N := 48) (ci := 8) rfl rfl [0] rfl (by decide) rfl rfl rfl rfl rfl rfl hl.1 (Nat.le_of_ble_eq_true rfl) dX8_readNumber_193 ⟨Nat.zero_le _, Nat.zero_le _⟩ (fun H locs hP hD hS => ?_)
                cases hM
                exact rt_v hx hb hr hlk hP hD hS rfl dX8_readNumber_196
              · replace hM := if_f c104 hM
                refine lv_iconst (v := 1) hx hb dX8_readNumber_156 (by decide) ?_
                refine lv_goto (tgt := 161) hx hb dX8_readNumber_157 (by decide) ?_
                refine lv_istore (lv' := [(4, .int 1), (2, .long r102.1), (0, .ref (ad 100)), (1, .int a1)]) hx hb dX8_readNumber_161 hl (by decide) rfl (fun ls hl => ?_)
                refine lv_iload hx hb dX8_readNumber_163 (lv_at hl 0 rfl) ?_
                refine lv_if_eq (tgt := 187) hx hb dX8_readNumber_165 (by decide) (fun c107 => False.elim (by revert c107; decide)) (fun c107 => ?_)
                refine lv_aload_n hx hb dX8_readNumber_168 rfl (lv_at hl 2 rfl) ?_
                refine lv_aload_n hx hb dX8_readNumber_169 rfl (lv_at hl 2 rfl) ?_
                refine va_get (D := D) (ci := 8) (v := .int r102.2.2.2.2.1) (C := RX8) (T := TX8) (N := 48) hx hb hts layX8 hown hK hP 0 rfl rfl 9 (by decide) (hts _ (inA q987)) (fun _ h9 => h9) rfl dX8_readNumber_170 ?_
                obtain ⟨r108, hcr108, hM⟩ := ob_use hM
                refine cl_V (As := [.int r102.2.2.2.2.1]) (rest := []) (wM_XL cI ad o_X r102.2 o_N o_T o_U o_O o_E o_Q o_V o_I) (.int r108 :: []) ⟨hx, hb, hml, hown, hts⟩ (c_Model_goesOn l D cI sd ad o_C r102.2 o_N o_T o_U o_O o_E o_Q o_V o_I o_X r102.2.2.2.2.1 r108 hcr108) (cwV2 hts q1195 mvX8_goesOn rfl rfl ⟨(Nat.le_of_ble_eq_true rfl), (Nat.le_of_ble_eq_true rfl)⟩) hK hE hA hP hD hS 0 (T := TX8) (N := 48) (ci := 8) rfl rfl [0, 1] rfl (by decide) rfl rfl rfl rfl rfl rfl hl.1 (Nat.le_of_ble_eq_true rfl) dX8_readNumber_173 ⟨Nat.zero_le _, Nat.zero_le _⟩ (fun H locs hP hD hS => ?_)
                refine lv_if_ne (tgt := 187) hx hb dX8_readNumber_176 (by decide) (fun c109 => ?_) (fun c109 => ?_)
                · replace hM := if_f c109 hM
                  refine lv_aload_n hx hb dX8_readNumber_187 rfl (lv_at hl 2 rfl) ?_
                  refine lv_iconst (v := 4) hx hb dX8_readNumber_188 (by decide) ?_
                  refine lv_aload_n hx hb dX8_readNumber_189 rfl (lv_at hl 2 rfl) ?_
                  refine va_get (D := D) (ci := 8) (v := .int r102.2.1) (C := RX8) (T := TX8) (N := 48) hx hb hts layX8 hown hK hP 0 rfl rfl 6 (by decide) (hts _ (inA q984)) (fun _ h9 => h9) rfl dX8_readNumber_190 ?_
                  obtain ⟨r110, hcr110, hM⟩ := ob_use hM
                  refine cl_V (As := [.int 4, .int r102.2.1]) (rest := []) (wM_XL cI ad o_X r110 o_N o_T o_U o_O o_E o_Q o_V o_I) [] ⟨hx, hb, hml, hown, hts⟩ (c_Model_fail l D cI sd ad o_C o_X o_N o_T o_U o_O o_E o_Q o_V o_I r102.2 4 r102.2.1 r110 hcr110) (cwV2 hts q1163 mvX8_fail rfl rfl ⟨(Nat.le_of_ble_eq_true rfl), (Nat.le_of_ble_eq_true rfl)⟩) hK hE hA hP hD hS 0 (T := TX8) (N := 48) (ci := 8) rfl rfl [0] rfl (by decide) rfl rfl rfl rfl rfl rfl hl.1 (Nat.le_of_ble_eq_true rfl) dX8_readNumber_193 ⟨Nat.zero_le _, Nat.zero_le _⟩ (fun H locs hP hD hS => ?_)
                  cases hM
                  exact rt_v hx hb hr hlk hP hD hS rfl dX8_readNumber_196
                · replace hM := if_t c109 hM
                  refine lv_lload_n hx hb dX8_readNumber_179 rfl (lv_at hl 1 rfl) ?_
                  refine lv_ldc2 (v := 2147483647) hx hb hown (hts _ (inA q1202)) dX8_readNumber_180 ?_
                  refine W.lcmp hx hb dX8_readNumber_183 ?_
                  refine lv_if_le (tgt := 197) hx hb dX8_readNumber_184 (by decide) (fun c111 => ?_) (fun c111 => ?_)
                  · replace hM := if_t c111 hM
                    refine lv_aload_n hx hb dX8_readNumber_197 rfl (lv_at hl 2 rfl) ?_
                    refine lv_bipush (v := 81) hx hb dX8_readNumber_198 (by decide) ?_
                    refine va_put (D := D) (ci := 8) (v := .int 81) (ty := .int) (C := RX8) (T := TX8) (N := 48) hx hb hts layX8 tyX8 tyX8_ok nmX8 hown hK hP hD hS 0 rfl rfl 7 (by decide) (hts _ (inA q985)) (fun _ h9 => h9) rfl (by decide +kernel) rfl rfl (Nat.le_of_ble_eq_true rfl) dX8_readNumber_200 (fun H locs hP hD hS => ?_)
                    have hP : va_P D vwCl (wM_XL cI ad o_X (r102.2.1, 81, r102.2.2.2) o_N o_T o_U o_O o_E o_Q o_V o_I) H := hP
                    have hD : va_D A (wM_XL cI ad o_X (r102.2.1, 81, r102.2.2.2) o_N o_T o_U o_O o_E o_Q o_V o_I) := hD
                    refine lv_aload_n hx hb dX8_readNumber_203 rfl (lv_at hl 2 rfl) ?_
                    refine lv_lload_n hx hb dX8_readNumber_204 rfl (lv_at hl 1 rfl) ?_
                    refine lv_l2i hx hb dX8_readNumber_205 rfl ?_
                    refine va_put (D := D) (ci := 8) (v := .int r102.1.toInt32) (ty := .int) (C := RX8) (T := TX8) (N := 48) hx hb hts layX8 tyX8 tyX8_ok nmX8 hown hK hP hD hS 0 rfl rfl 8 (by decide) (hts _ (inA q986)) (fun _ h9 => h9) rfl (by decide +kernel) rfl rfl (Nat.le_of_ble_eq_true rfl) dX8_readNumber_206 (fun H locs hP hD hS => ?_)
                    have hP : va_P D vwCl (wM_XL cI ad o_X (r102.2.1, 81, r102.1.toInt32, r102.2.2.2.2) o_N o_T o_U o_O o_E o_Q o_V o_I) H := hP
                    have hD : va_D A (wM_XL cI ad o_X (r102.2.1, 81, r102.1.toInt32, r102.2.2.2.2) o_N o_T o_U o_O o_E o_Q o_V o_I) := hD
                    cases hM
                    exact rt_v hx hb hr hlk hP hD hS rfl dX8_readNumber_209
                  · replace hM := if_f c111 hM
                    refine lv_aload_n hx hb dX8_readNumber_187 rfl (lv_at hl 2 rfl) ?_
                    refine lv_iconst (v := 4) hx hb dX8_readNumber_188 (by decide) ?_
                    refine lv_aload_n hx hb dX8_readNumber_189 rfl (lv_at hl 2 rfl) ?_
                    refine va_get (D := D) (ci := 8) (v := .int r102.2.1) (C := RX8) (T := TX8) (N := 48) hx hb hts layX8 hown hK hP 0 rfl rfl 6 (by decide) (hts _ (inA q984)) (fun _ h9 => h9) rfl dX8_readNumber_190 ?_
                    obtain ⟨r112, hcr112, hM⟩ := ob_use hM
                    refine cl_V (As := [.int 4, .int r102.2.1]) (rest := []) (wM_XL cI ad o_X r112 o_N o_T o_U o_O o_E o_Q o_V o_I) [] ⟨hx, hb, hml, hown, hts⟩ (c_Model_fail l D cI sd ad o_C o_X o_N o_T o_U o_O o_E o_Q o_V o_I r102.2 4 r102.2.1 r112 hcr112) (cwV2 hts q1163 mvX8_fail rfl rfl ⟨(Nat.le_of_ble_eq_true rfl), (Nat.le_of_ble_eq_true rfl)⟩) hK hE hA hP hD hS 0 (T := TX8) (N := 48) (ci := 8) rfl rfl [0] rfl (by decide) rfl rfl rfl rfl rfl rfl hl.1 (Nat.le_of_ble_eq_true rfl) dX8_readNumber_193 ⟨Nat.zero_le _, Nat.zero_le _⟩ (fun H locs hP hD hS => ?_)
                    cases hM
                    exact rt_v hx hb hr hlk hP hD hS rfl dX8_readNumber_196
      · replace hM := if_f c73 hM
        refine lv_iload hx hb dX8_readNumber_45 (lv_at hl 0 rfl) ?_
        refine lv_if_eq (tgt := 78) hx hb dX8_readNumber_47 (by decide) (fun c113 => False.elim (by revert c113; decide)) (fun c113 => ?_)
        refine lv_aload_n hx hb dX8_readNumber_50 rfl (lv_at hl 2 rfl) ?_
        obtain ⟨r114, hcr114, hM⟩ := ob_use hM
        refine cl_V (As := []) (rest := []) (wM_XL cI ad o_X r114.2 o_N o_T o_U o_O o_E o_Q o_V o_I) (.long r114.1 :: []) ⟨hx, hb, hml, hown, hts⟩ (c_Model_unit l D cI sd ad o_C o_N o_T o_U o_O o_E o_Q o_V o_I o_X r63.2 r114 hcr114) (cwV2 hts q1186 mvX8_unit rfl rfl ⟨(Nat.le_of_ble_eq_true rfl), (Nat.le_of_ble_eq_true rfl)⟩) hK hE hA hP hD hS 0 (T := TX8) (N := 48) (ci := 8) rfl rfl [0, 1] rfl (by decide) rfl rfl rfl rfl rfl rfl hl.1 (Nat.le_of_ble_eq_true rfl) dX8_readNumber_51 ⟨Nat.zero_le _, Nat.zero_le _⟩ (fun H locs hP hD hS => ?_)
        refine lv_lstore (lv' := [(5, .long r114.1), (4, .int 1), (2, .long r63.1), (0, .ref (ad 100)), (1, .int a1)]) hx hb dX8_readNumber_54 hl (by decide) rfl (fun ls hl => ?_)
        refine lv_lload hx hb dX8_readNumber_56 (lv_at hl 0 rfl) ?_
        refine lv_lconst (v := 0) hx hb dX8_readNumber_58 (by decide) ?_
        refine W.lcmp hx hb dX8_readNumber_59 ?_
        refine lv_if_le (tgt := 67) hx hb dX8_readNumber_60 (by decide) (fun c115 => ?_) (fun c115 => ?_)
        · replace hM := if_t c115 hM
          refine lv_iconst (v := 0) hx hb dX8_readNumber_67 (by decide) ?_
          refine lv_istore (lv' := [(4, .int 0), (5, .long r114.1), (2, .long r63.1), (0, .ref (ad 100)), (1, .int a1)]) hx hb dX8_readNumber_68 hl (by decide) rfl (fun ls hl => ?_)
          refine lv_lload_n hx hb dX8_readNumber_70 rfl (lv_at hl 2 rfl) ?_
          refine lv_lload hx hb dX8_readNumber_71 (lv_at hl 1 rfl) ?_
          refine lv_lmul hx hb dX8_readNumber_73 ?_
          refine lv_lstore_n (lv' := [(2, .long (r63.1 * r114.1)), (4, .int 0), (5, .long r114.1), (0, .ref (ad 100)), (1, .int a1)]) hx hb dX8_readNumber_74 rfl hl (by decide) rfl (fun ls hl => ?_)
          refine lv_goto (tgt := 163) hx hb dX8_readNumber_75 (by decide) ?_
          refine lv_iload hx hb dX8_readNumber_163 (lv_at hl 1 rfl) ?_
          refine lv_if_eq (tgt := 187) hx hb dX8_readNumber_165 (by decide) (fun c116 => ?_) (fun c116 => False.elim (by revert c116; decide))
          refine lv_aload_n hx hb dX8_readNumber_187 rfl (lv_at hl 3 rfl) ?_
          refine lv_iconst (v := 4) hx hb dX8_readNumber_188 (by decide) ?_
          refine lv_aload_n hx hb dX8_readNumber_189 rfl (lv_at hl 3 rfl) ?_
          refine va_get (D := D) (ci := 8) (v := .int r114.2.1) (C := RX8) (T := TX8) (N := 48) hx hb hts layX8 hown hK hP 0 rfl rfl 6 (by decide) (hts _ (inA q984)) (fun _ h9 => h9) rfl dX8_readNumber_190 ?_
          obtain ⟨r117, hcr117, hM⟩ := ob_use hM
          refine cl_V (As := [.int 4, .int r114.2.1]) (rest := []) (wM_XL cI ad o_X r117 o_N o_T o_U o_O o_E o_Q o_V o_I) [] ⟨hx, hb, hml, hown, hts⟩ (c_Model_fail l D cI sd ad o_C o_X o_N o_T o_U o_O o_E o_Q o_V o_I r114.2 4 r114.2.1 r117 hcr117) (cwV2 hts q1163 mvX8_fail rfl rfl ⟨(Nat.le_of_ble_eq_true rfl), (Nat.le_of_ble_eq_true rfl)⟩) hK hE hA hP hD hS 0 (T := TX8) (N := 48) (ci := 8) rfl rfl [0] rfl (by decide) rfl rfl rfl rfl rfl rfl hl.1 (Nat.le_of_ble_eq_true rfl) dX8_readNumber_193 ⟨Nat.zero_le _, Nat.zero_le _⟩ (fun H locs hP hD hS => ?_)
          cases hM
          exact rt_v hx hb hr hlk hP hD hS rfl dX8_readNumber_196
        · replace hM := if_f c115 hM
          refine lv_iconst (v := 1) hx hb dX8_readNumber_63 (by decide) ?_
          refine lv_goto (tgt := 68) hx hb dX8_readNumber_64 (by decide) ?_
          refine lv_istore (lv' := [(4, .int 1), (5, .long r114.1), (2, .long r63.1), (0, .ref (ad 100)), (1, .int a1)]) hx hb dX8_readNumber_68 hl (by decide) rfl (fun ls hl => ?_)
          refine lv_lload_n hx hb dX8_readNumber_70 rfl (lv_at hl 2 rfl) ?_
          refine lv_lload hx hb dX8_readNumber_71 (lv_at hl 1 rfl) ?_
          refine lv_lmul hx hb dX8_readNumber_73 ?_
          refine lv_lstore_n (lv' := [(2, .long (r63.1 * r114.1)), (4, .int 1), (5, .long r114.1), (0, .ref (ad 100)), (1, .int a1)]) hx hb dX8_readNumber_74 rfl hl (by decide) rfl (fun ls hl => ?_)
          refine lv_goto (tgt := 163) hx hb dX8_readNumber_75 (by decide) ?_
          refine lv_iload hx hb dX8_readNumber_163 (lv_at hl 1 rfl) ?_
          refine lv_if_eq (tgt := 187) hx hb dX8_readNumber_165 (by decide) (fun c118 => False.elim (by revert c118; decide)) (fun c118 => ?_)
          refine lv_aload_n hx hb dX8_readNumber_168 rfl (lv_at hl 3 rfl) ?_
          refine lv_aload_n hx hb dX8_readNumber_169 rfl (lv_at hl 3 rfl) ?_
          refine va_get (D := D) (ci := 8) (v := .int r114.2.2.2.2.1) (C := RX8) (T := TX8) (N := 48) hx hb hts layX8 hown hK hP 0 rfl rfl 9 (by decide) (hts _ (inA q987)) (fun _ h9 => h9) rfl dX8_readNumber_170 ?_
          obtain ⟨r119, hcr119, hM⟩ := ob_use hM
          refine cl_V (As := [.int r114.2.2.2.2.1]) (rest := []) (wM_XL cI ad o_X r114.2 o_N o_T o_U o_O o_E o_Q o_V o_I) (.int r119 :: []) ⟨hx, hb, hml, hown, hts⟩ (c_Model_goesOn l D cI sd ad o_C r114.2 o_N o_T o_U o_O o_E o_Q o_V o_I o_X r114.2.2.2.2.1 r119 hcr119) (cwV2 hts q1195 mvX8_goesOn rfl rfl ⟨(Nat.le_of_ble_eq_true rfl), (Nat.le_of_ble_eq_true rfl)⟩) hK hE hA hP hD hS 0 (T := TX8) (N := 48) (ci := 8) rfl rfl [0, 1] rfl (by decide) rfl rfl rfl rfl rfl rfl hl.1 (Nat.le_of_ble_eq_true rfl) dX8_readNumber_173 ⟨Nat.zero_le _, Nat.zero_le _⟩ (fun H locs hP hD hS => ?_)
          refine lv_if_ne (tgt := 187) hx hb dX8_readNumber_176 (by decide) (fun c120 => ?_) (fun c120 => ?_)
          · replace hM := if_f c120 hM
            refine lv_aload_n hx hb dX8_readNumber_187 rfl (lv_at hl 3 rfl) ?_
            refine lv_iconst (v := 4) hx hb dX8_readNumber_188 (by decide) ?_
            refine lv_aload_n hx hb dX8_readNumber_189 rfl (lv_at hl 3 rfl) ?_
            refine va_get (D := D) (ci := 8) (v := .int r114.2.1) (C := RX8) (T := TX8) (N := 48) hx hb hts layX8 hown hK hP 0 rfl rfl 6 (by decide) (hts _ (inA q984)) (fun _ h9 => h9) rfl dX8_readNumber_190 ?_
            obtain ⟨r121, hcr121, hM⟩ := ob_use hM
            refine cl_V (As := [.int 4, .int r114.2.1]) (rest := []) (wM_XL cI ad o_X r121 o_N o_T o_U o_O o_E o_Q o_V o_I) [] ⟨hx, hb, hml, hown, hts⟩ (c_Model_fail l D cI sd ad o_C o_X o_N o_T o_U o_O o_E o_Q o_V o_I r114.2 4 r114.2.1 r121 hcr121) (cwV2 hts q1163 mvX8_fail rfl rfl ⟨(Nat.le_of_ble_eq_true rfl), (Nat.le_of_ble_eq_true rfl)⟩) hK hE hA hP hD hS 0 (T := TX8) (N := 48) (ci := 8) rfl rfl [0] rfl (by decide) rfl rfl rfl rfl rfl rfl hl.1 (Nat.le_of_ble_eq_true rfl) dX8_readNumber_193 ⟨Nat.zero_le _, Nat.zero_le _⟩ (fun H locs hP hD hS => ?_)
            cases hM
            exact rt_v hx hb hr hlk hP hD hS rfl dX8_readNumber_196
          · replace hM := if_t c120 hM
            refine lv_lload_n hx hb dX8_readNumber_179 rfl (lv_at hl 0 rfl) ?_
            refine lv_ldc2 (v := 2147483647) hx hb hown (hts _ (inA q1202)) dX8_readNumber_180 ?_
            refine W.lcmp hx hb dX8_readNumber_183 ?_
            refine lv_if_le (tgt := 197) hx hb dX8_readNumber_184 (by decide) (fun c122 => ?_) (fun c122 => ?_)
            · replace hM := if_t c122 hM
              refine lv_aload_n hx hb dX8_readNumber_197 rfl (lv_at hl 3 rfl) ?_
              refine lv_bipush (v := 81) hx hb dX8_readNumber_198 (by decide) ?_
              refine va_put (D := D) (ci := 8) (v := .int 81) (ty := .int) (C := RX8) (T := TX8) (N := 48) hx hb hts layX8 tyX8 tyX8_ok nmX8 hown hK hP hD hS 0 rfl rfl 7 (by decide) (hts _ (inA q985)) (fun _ h9 => h9) rfl (by decide +kernel) rfl rfl (Nat.le_of_ble_eq_true rfl) dX8_readNumber_200 (fun H locs hP hD hS => ?_)
              have hP : va_P D vwCl (wM_XL cI ad o_X (r114.2.1, 81, r114.2.2.2) o_N o_T o_U o_O o_E o_Q o_V o_I) H := hP
              have hD : va_D A (wM_XL cI ad o_X (r114.2.1, 81, r114.2.2.2) o_N o_T o_U o_O o_E o_Q o_V o_I) := hD
              refine lv_aload_n hx hb dX8_readNumber_203 rfl (lv_at hl 3 rfl) ?_
              refine lv_lload_n hx hb dX8_readNumber_204 rfl (lv_at hl 0 rfl) ?_
              refine lv_l2i hx hb dX8_readNumber_205 rfl ?_
              refine va_put (D := D) (ci := 8) (v := .int ((r63.1 * r114.1).toInt32)) (ty := .int) (C := RX8) (T := TX8) (N := 48) hx hb hts layX8 tyX8 tyX8_ok nmX8 hown hK hP hD hS 0 rfl rfl 8 (by decide) (hts _ (inA q986)) (fun _ h9 => h9) rfl (by decide +kernel) rfl rfl (Nat.le_of_ble_eq_true rfl) dX8_readNumber_206 (fun H locs hP hD hS => ?_)
              have hP : va_P D vwCl (wM_XL cI ad o_X (r114.2.1, 81, (r63.1 * r114.1).toInt32, r114.2.2.2.2) o_N o_T o_U o_O o_E o_Q o_V o_I) H := hP
              have hD : va_D A (wM_XL cI ad o_X (r114.2.1, 81, (r63.1 * r114.1).toInt32, r114.2.2.2.2) o_N o_T o_U o_O o_E o_Q o_V o_I) := hD
              cases hM
              exact rt_v hx hb hr hlk hP hD hS rfl dX8_readNumber_209
            · replace hM := if_f c122 hM
              refine lv_aload_n hx hb dX8_readNumber_187 rfl (lv_at hl 3 rfl) ?_
              refine lv_iconst (v := 4) hx hb dX8_readNumber_188 (by decide) ?_
              refine lv_aload_n hx hb dX8_readNumber_189 rfl (lv_at hl 3 rfl) ?_
              refine va_get (D := D) (ci := 8) (v := .int r114.2.1) (C := RX8) (T := TX8) (N := 48) hx hb hts layX8 hown hK hP 0 rfl rfl 6 (by decide) (hts _ (inA q984)) (fun _ h9 => h9) rfl dX8_readNumber_190 ?_
              obtain ⟨r123, hcr123, hM⟩ := ob_use hM
              refine cl_V (As := [.int 4, .int r114.2.1]) (rest := []) (wM_XL cI ad o_X r123 o_N o_T o_U o_O o_E o_Q o_V o_I) [] ⟨hx, hb, hml, hown, hts⟩ (c_Model_fail l D cI sd ad o_C o_X o_N o_T o_U o_O o_E o_Q o_V o_I r114.2 4 r114.2.1 r123 hcr123) (cwV2 hts q1163 mvX8_fail rfl rfl ⟨(Nat.le_of_ble_eq_true rfl), (Nat.le_of_ble_eq_true rfl)⟩) hK hE hA hP hD hS 0 (T := TX8) (N := 48) (ci := 8) rfl rfl [0] rfl (by decide) rfl rfl rfl rfl rfl rfl hl.1 (Nat.le_of_ble_eq_true rfl) dX8_readNumber_193 ⟨Nat.zero_le _, Nat.zero_le _⟩ (fun H locs hP hD hS => ?_)
              cases hM
              exact rt_v hx hb hr hlk hP hD hS rfl dX8_readNumber_196

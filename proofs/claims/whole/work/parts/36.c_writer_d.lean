set_option maxHeartbeats 4000000 in
set_option maxRecDepth 100000 in
theorem c_Writer_token (l : Launch) (D : va_G) (cI : ClassId) (sd : Nat → Nat) (ad : Nat → Nat) (o_names : S_Names) (o_out : S_Bytes) (a1 : Int32) (res : S_Bytes) (hM : f_Writer_token o_names o_out a1 = some res) : Ctr l D cI sd yX5_token (wsM yX5_token cX5_token 2 (Option.none : Option Jvm.ClassFile.FieldType)) { frames := 3, cells := 0, slots := 0, locals := 64 } [.ref (ad 23), .int a1] (w_Writer_this_names_out cI ad o_names o_out) (w_Writer_this_names_out cI ad o_names res) none := by
  refine Ctr.of (cc := cX5_token) (maxL := 2) (own := RX5) (by decide +kernel) rfl rfl (Nat.le_of_ble_eq_true rfl) ?_
  intro p e s m below meth c A ls hx hb hr hml hown hts hlk hK hE hA hP hD hS hl
  have hl : lv_has ls 2 [(0, .ref (ad 23)), (1, .int a1)] := hl
  unfold f_Writer_token at hM
  refine lv_iload_n hx hb dX5_token_0 rfl (lv_at hl 1 rfl) ?_
  refine lv_sipush (v := 256) hx hb dX5_token_1 (by decide) ?_
  refine lv_icmp_lt (tgt := 26) hx hb dX5_token_4 (by decide) (fun c1 => ?_) (fun c1 => ?_)
  · replace hM := if_t c1 hM
    refine lv_iload_n hx hb dX5_token_26 rfl (lv_at hl 1 rfl) ?_
    refine lv_sipush (v := 255) hx hb dX5_token_27 (by decide) ?_
    refine lv_icmp_le (tgt := 59) hx hb dX5_token_30 (by decide) (fun c2 => ?_) (fun c2 => ?_)
    · replace hM := if_t c2 hM
      refine lv_iload_n hx hb dX5_token_59 rfl (lv_at hl 1 rfl) ?_
      refine lv_if_lt (tgt := 71) hx hb dX5_token_60 (by decide) (fun c3 => ?_) (fun c3 => ?_)
      · replace hM := if_t c3 hM
        cases hM
        exact rt_v hx hb hr hlk hP hD hS rfl dX5_token_71
      · replace hM := if_f c3 hM
        refine lv_aload_n hx hb dX5_token_63 rfl (lv_at hl 0 rfl) ?_
        refine va_get (D := D) (ci := 5) (v := .ref (ad 3)) (C := RX5) (T := TX5) (N := 3) hx hb hts layX5 hown hK hP 0 rfl rfl 2 (by decide) (hts _ (inA q444)) (fun _ h9 => h9) rfl dX5_token_64 ?_
        refine lv_iload_n hx hb dX5_token_67 rfl (lv_at hl 1 rfl) ?_
        obtain ⟨r4, hcr4, hM⟩ := ob_use hM
        refine cl_V (As := [.int a1]) (rest := []) (w_Writer_this_names_out cI ad o_names r4) [] ⟨hx, hb, hml, hown, hts⟩ (c_Bytes_put l D cI sd (ad 3) (ad 4) 16384 o_out a1 r4 hcr4) (cwV2 hts q886 mvX0_put rfl rfl ⟨(Nat.le_of_ble_eq_true rfl), (Nat.le_of_ble_eq_true rfl)⟩) hK hE hA hP hD hS 6 (T := TX0) (N := 2) (ci := 0) rfl rfl [6, 7] rfl (by decide) rfl rfl rfl rfl rfl rfl hl.1 (Nat.le_of_ble_eq_true rfl) dX5_token_68 ⟨Nat.zero_le _, Nat.zero_le _⟩ (fun H locs hP hD hS => ?_)
        cases hM
        exact rt_v hx hb hr hlk hP hD hS rfl dX5_token_71
    · replace hM := if_f c2 hM
      refine lv_aload_n hx hb dX5_token_33 rfl (lv_at hl 0 rfl) ?_
      refine va_get (D := D) (ci := 5) (v := .ref (ad 3)) (C := RX5) (T := TX5) (N := 3) hx hb hts layX5 hown hK hP 0 rfl rfl 2 (by decide) (hts _ (inA q444)) (fun _ h9 => h9) rfl dX5_token_34 ?_
      refine lv_iload_n hx hb dX5_token_37 rfl (lv_at hl 1 rfl) ?_
      refine lv_bipush (v := 8) hx hb dX5_token_38 (by decide) ?_
      refine lv_ishr hx hb dX5_token_40 ?_
      obtain ⟨r5, hcr5, hM⟩ := ob_use hM
      refine cl_V (As := [.int (a1 >>> (8 &&& 31))]) (rest := []) (w_Writer_this_names_out cI ad o_names r5) [] ⟨hx, hb, hml, hown, hts⟩ (c_Bytes_put l D cI sd (ad 3) (ad 4) 16384 o_out (a1 >>> (8 &&& 31)) r5 hcr5) (cwV2 hts q886 mvX0_put rfl rfl ⟨(Nat.le_of_ble_eq_true rfl), (Nat.le_of_ble_eq_true rfl)⟩) hK hE hA hP hD hS 6 (T := TX0) (N := 2) (ci := 0) rfl rfl [6, 7] rfl (by decide) rfl rfl rfl rfl rfl rfl hl.1 (Nat.le_of_ble_eq_true rfl) dX5_token_41 ⟨Nat.zero_le _, Nat.zero_le _⟩ (fun H locs hP hD hS => ?_)
      refine lv_aload_n hx hb dX5_token_44 rfl (lv_at hl 0 rfl) ?_
      refine va_get (D := D) (ci := 5) (v := .ref (ad 3)) (C := RX5) (T := TX5) (N := 3) hx hb hts layX5 hown hK hP 0 rfl rfl 2 (by decide) (hts _ (inA q444)) (fun _ h9 => h9) rfl dX5_token_45 ?_
      refine lv_iload_n hx hb dX5_token_48 rfl (lv_at hl 1 rfl) ?_
      refine lv_sipush (v := 255) hx hb dX5_token_49 (by decide) ?_
      refine lv_iand hx hb dX5_token_52 ?_
      obtain ⟨r6, hcr6, hM⟩ := ob_use hM
      refine cl_V (As := [.int (a1 &&& 255)]) (rest := []) (w_Writer_this_names_out cI ad o_names r6) [] ⟨hx, hb, hml, hown, hts⟩ (c_Bytes_put l D cI sd (ad 3) (ad 4) 16384 r5 (a1 &&& 255) r6 hcr6) (cwV2 hts q886 mvX0_put rfl rfl ⟨(Nat.le_of_ble_eq_true rfl), (Nat.le_of_ble_eq_true rfl)⟩) hK hE hA hP hD hS 6 (T := TX0) (N := 2) (ci := 0) rfl rfl [6, 7] rfl (by decide) rfl rfl rfl rfl rfl rfl hl.1 (Nat.le_of_ble_eq_true rfl) dX5_token_53 ⟨Nat.zero_le _, Nat.zero_le _⟩ (fun H locs hP hD hS => ?_)
      refine lv_goto (tgt := 71) hx hb dX5_token_56 (by decide) ?_
      cases hM
      exact rt_v hx hb hr hlk hP hD hS rfl dX5_token_71
  · replace hM := if_f c1 hM
    refine lv_iload_n hx hb dX5_token_7 rfl (lv_at hl 1 rfl) ?_
    refine lv_sipush (v := 297) hx hb dX5_token_8 (by decide) ?_
    refine lv_icmp_ge (tgt := 26) hx hb dX5_token_11 (by decide) (fun c7 => ?_) (fun c7 => ?_)
    · replace hM := if_t c7 hM
      refine lv_iload_n hx hb dX5_token_26 rfl (lv_at hl 1 rfl) ?_
      refine lv_sipush (v := 255) hx hb dX5_token_27 (by decide) ?_
      refine lv_icmp_le (tgt := 59) hx hb dX5_token_30 (by decide) (fun c8 => ?_) (fun c8 => ?_)
      · replace hM := if_t c8 hM
        refine lv_iload_n hx hb dX5_token_59 rfl (lv_at hl 1 rfl) ?_
        refine lv_if_lt (tgt := 71) hx hb dX5_token_60 (by decide) (fun c9 => ?_) (fun c9 => ?_)
        · replace hM := if_t c9 hM
          cases hM
          exact rt_v hx hb hr hlk hP hD hS rfl dX5_token_71
        · replace hM := if_f c9 hM
          refine lv_aload_n hx hb dX5_token_63 rfl (lv_at hl 0 rfl) ?_
          refine va_get (D := D) (ci := 5) (v := .ref (ad 3)) (C := RX5) (T := TX5) (N := 3) hx hb hts layX5 hown hK hP 0 rfl rfl 2 (by decide) (hts _ (inA q444)) (fun _ h9 => h9) rfl dX5_token_64 ?_
          refine lv_iload_n hx hb dX5_token_67 rfl (lv_at hl 1 rfl) ?_
          obtain ⟨r10, hcr10, hM⟩ := ob_use hM
          refine cl_V (As := [.int a1]) (rest := []) (w_Writer_this_names_out cI ad o_names r10) [] ⟨hx, hb, hml, hown, hts⟩ (c_Bytes_put l D cI sd (ad 3) (ad 4) 16384 o_out a1 r10 hcr10) (cwV2 hts q886 mvX0_put rfl rfl ⟨(Nat.le_of_ble_eq_true rfl), (Nat.le_of_ble_eq_true rfl)⟩) hK hE hA hP hD hS 6 (T := TX0) (N := 2) (ci := 0) rfl rfl [6, 7] rfl (by decide) rfl rfl rfl rfl rfl rfl hl.1 (Nat.le_of_ble_eq_true rfl) dX5_token_68 ⟨Nat.zero_le _, Nat.zero_le _⟩ (fun H locs hP hD hS => ?_)
          cases hM
          exact rt_v hx hb hr hlk hP hD hS rfl dX5_token_71
      · replace hM := if_f c8 hM
        refine lv_aload_n hx hb dX5_token_33 rfl (lv_at hl 0 rfl) ?_
        refine va_get (D := D) (ci := 5) (v := .ref (ad 3)) (C := RX5) (T := TX5) (N := 3) hx hb hts layX5 hown hK hP 0 rfl rfl 2 (by decide) (hts _ (inA q444)) (fun _ h9 => h9) rfl dX5_token_34 ?_
        refine lv_iload_n hx hb dX5_token_37 rfl (lv_at hl 1 rfl) ?_
        refine lv_bipush (v := 8) hx hb dX5_token_38 (by decide) ?_
        refine lv_ishr hx hb dX5_token_40 ?_
        obtain ⟨r11, hcr11, hM⟩ := ob_use hM
        refine cl_V (As := [.int (a1 >>> (8 &&& 31))]) (rest := []) (w_Writer_this_names_out cI ad o_names r11) [] ⟨hx, hb, hml, hown, hts⟩ (c_Bytes_put l D cI sd (ad 3) (ad 4) 16384 o_out (a1 >>> (8 &&& 31)) r11 hcr11) (cwV2 hts q886 mvX0_put rfl rfl ⟨(Nat.le_of_ble_eq_true rfl), (Nat.le_of_ble_eq_true rfl)⟩) hK hE hA hP hD hS 6 (T := TX0) (N := 2) (ci := 0) rfl rfl [6, 7] rfl (by decide) rfl rfl rfl rfl rfl rfl hl.1 (Nat.le_of_ble_eq_true rfl) dX5_token_41 ⟨Nat.zero_le _, Nat.zero_le _⟩ (fun H locs hP hD hS => ?_)
        refine lv_aload_n hx hb dX5_token_44 rfl (lv_at hl 0 rfl) ?_
        refine va_get (D := D) (ci := 5) (v := .ref (ad 3)) (C := RX5) (T := TX5) (N := 3) hx hb hts layX5 hown hK hP 0 rfl rfl 2 (by decide) (hts _ (inA q444)) (fun _ h9 => h9) rfl dX5_token_45 ?_
        refine lv_iload_n hx hb dX5_token_48 rfl (lv_at hl 1 rfl) ?_
        refine lv_sipush (v := 255) hx hb dX5_token_49 (by decide) ?_
        refine lv_iand hx hb dX5_token_52 ?_
        obtain ⟨r12, hcr12, hM⟩ := ob_use hM
        refine cl_V (As := [.int (a1 &&& 255)]) (rest := []) (w_Writer_this_names_out cI ad o_names r12) [] ⟨hx, hb, hml, hown, hts⟩ (c_Bytes_put l D cI sd (ad 3) (ad 4) 16384 r11 (a1 &&& 255) r12 hcr12) (cwV2 hts q886 mvX0_put rfl rfl ⟨(Nat.le_of_ble_eq_true rfl), (Nat.le_of_ble_eq_true rfl)⟩) hK hE hA hP hD hS 6 (T := TX0) (N := 2) (ci := 0) rfl rfl [6, 7] rfl (by decide) rfl rfl rfl rfl rfl rfl hl.1 (Nat.le_of_ble_eq_true rfl) dX5_token_53 ⟨Nat.zero_le _, Nat.zero_le _⟩ (fun H locs hP hD hS => ?_)
        refine lv_goto (tgt := 71) hx hb dX5_token_56 (by decide) ?_
        cases hM
        exact rt_v hx hb hr hlk hP hD hS rfl dX5_token_71
    · replace hM := if_f c7 hM
      refine lv_aload_n hx hb dX5_token_14 rfl (lv_at hl 0 rfl) ?_
      refine lv_iload_n hx hb dX5_token_15 rfl (lv_at hl 1 rfl) ?_
      refine lv_sipush (v := 256) hx hb dX5_token_16 (by decide) ?_
      refine lv_isub hx hb dX5_token_19 ?_
      obtain ⟨r13, hcr13, hM⟩ := ob_use hM
      refine cl_V (As := [.int (a1 - 256)]) (rest := []) (w_Writer_this_names_out cI ad o_names r13) [] ⟨hx, hb, hml, hown, hts⟩ (c_Writer_word l D cI sd ad o_names o_out (a1 - 256) r13 hcr13) (cwV2 hts q876 mvX5_word rfl rfl ⟨(Nat.le_of_ble_eq_true rfl), (Nat.le_of_ble_eq_true rfl)⟩) hK hE hA hP hD hS 0 (T := TX5) (N := 3) (ci := 5) rfl rfl [0, 1, 2, 3, 4, 5, 6, 7] rfl (by decide) rfl rfl rfl rfl rfl rfl hl.1 (Nat.le_of_ble_eq_true rfl) dX5_token_20 ⟨Nat.zero_le _, Nat.zero_le _⟩ (fun H locs hP hD hS => ?_)
      refine lv_goto (tgt := 71) hx hb dX5_token_23 (by decide) ?_
      cases hM
      exact rt_v hx hb hr hlk hP hD hS rfl dX5_token_71

set_option maxHeartbeats 4000000 in
set_option maxRecDepth 100000 in
theorem c_Writer_number (l : Launch) (D : va_G) (cI : ClassId) (sd : Nat → Nat) (ad : Nat → Nat) (o_names : S_Names) (o_out : S_Bytes) (a1 : Int32) (res : S_Bytes) (hM : f_Writer_number o_names o_out a1 = some res) : Ctr l D cI sd yX5_number (wsM yX5_number cX5_number 2 (Option.none : Option Jvm.ClassFile.FieldType)) { frames := 4, cells := 0, slots := 0, locals := 85 } [.ref (ad 23), .int a1] (w_Writer_this_names_out cI ad o_names o_out) (w_Writer_this_names_out cI ad o_names res) none := by
  refine Ctr.of (cc := cX5_number) (maxL := 2) (own := RX5) (by decide +kernel) rfl rfl (Nat.le_of_ble_eq_true rfl) ?_
  intro p e s m below meth c A ls hx hb hr hml hown hts hlk hK hE hA hP hD hS hl
  have hl : lv_has ls 2 [(0, .ref (ad 23)), (1, .int a1)] := hl
  unfold f_Writer_number at hM
  refine lv_iload_n hx hb dX5_number_0 rfl (lv_at hl 1 rfl) ?_
  refine lv_if_ge (tgt := 10) hx hb dX5_number_1 (by decide) (fun c1 => ?_) (fun c1 => ?_)
  · replace hM := if_t c1 hM
    refine lv_aload_n hx hb dX5_number_10 rfl (lv_at hl 0 rfl) ?_
    obtain ⟨r2, hcr2, hM⟩ := ob_use hM
    refine cl_V (As := []) (rest := []) (w_Writer_this_names_out cI ad o_names r2) [] ⟨hx, hb, hml, hown, hts⟩ (c_Writer_part l D cI sd ad o_out r2 hcr2) (cwV2 hts q880 mvX5_part rfl rfl ⟨(Nat.le_of_ble_eq_true rfl), (Nat.le_of_ble_eq_true rfl)⟩) hK hE hA hP hD hS 0 (T := TX5) (N := 3) (ci := 5) rfl rfl [0, 6, 7] rfl (by decide) rfl rfl rfl rfl rfl rfl hl.1 (Nat.le_of_ble_eq_true rfl) dX5_number_11 ⟨Nat.zero_le _, Nat.zero_le _⟩ (fun H locs hP hD hS => ?_)
    refine lv_aload_n hx hb dX5_number_14 rfl (lv_at hl 0 rfl) ?_
    refine lv_iload_n hx hb dX5_number_15 rfl (lv_at hl 1 rfl) ?_
    obtain ⟨r3, hcr3, hM⟩ := ob_use hM
    refine cl_S (As := [.int a1]) (rest := [.ref (ad 23)]) (w_Writer_this_names_out cI ad o_names r2) (.int r3 :: [.ref (ad 23)]) ⟨hx, hb, hml, hown, hts⟩ (c_Math_abs l D cI sd ad a1 r3 hcr3) (cwS2 hts q945 mvX10_abs rfl rfl ⟨(Nat.le_of_ble_eq_true rfl), (Nat.le_of_ble_eq_true rfl)⟩) hK hE hA hP hD hS [] rfl (by decide) rfl rfl rfl rfl rfl rfl hl.1 (Nat.le_of_ble_eq_true rfl) dX5_number_16 ⟨Nat.zero_le _, Nat.zero_le _⟩ (fun H locs hP hD hS => ?_)
    obtain ⟨r4, hcr4, hM⟩ := ob_use hM
    refine cl_V (As := [.int r3]) (rest := []) (w_Writer_this_names_out cI ad o_names r4) [] ⟨hx, hb, hml, hown, hts⟩ (c_Writer_digits l D cI sd ad r2 r3 r4 hcr4) (cwV2 hts q948 mvX5_digits rfl rfl ⟨(Nat.le_of_ble_eq_true rfl), (Nat.le_of_ble_eq_true rfl)⟩) hK hE hA hP hD hS 0 (T := TX5) (N := 3) (ci := 5) rfl rfl [0, 6, 7] rfl (by decide) rfl rfl rfl rfl rfl rfl hl.1 (Nat.le_of_ble_eq_true rfl) dX5_number_19 ⟨Nat.zero_le _, Nat.zero_le _⟩ (fun H locs hP hD hS => ?_)
    cases hM
    exact rt_v hx hb hr hlk hP hD hS rfl dX5_number_22
  · replace hM := if_f c1 hM
    refine lv_aload_n hx hb dX5_number_4 rfl (lv_at hl 0 rfl) ?_
    refine lv_bipush (v := 45) hx hb dX5_number_5 (by decide) ?_
    obtain ⟨r5, hcr5, hM⟩ := ob_use hM
    refine cl_V (As := [.int 45]) (rest := []) (w_Writer_this_names_out cI ad o_names r5) [] ⟨hx, hb, hml, hown, hts⟩ (c_Writer_token l D cI sd ad o_names o_out 45 r5 hcr5) (cwV2 hts q872 mvX5_token rfl rfl ⟨(Nat.le_of_ble_eq_true rfl), (Nat.le_of_ble_eq_true rfl)⟩) hK hE hA hP hD hS 0 (T := TX5) (N := 3) (ci := 5) rfl rfl [0, 1, 2, 3, 4, 5, 6, 7] rfl (by decide) rfl rfl rfl rfl rfl rfl hl.1 (Nat.le_of_ble_eq_true rfl) dX5_number_7 ⟨Nat.zero_le _, Nat.zero_le _⟩ (fun H locs hP hD hS => ?_)
    refine lv_aload_n hx hb dX5_number_10 rfl (lv_at hl 0 rfl) ?_
    obtain ⟨r6, hcr6, hM⟩ := ob_use hM
    refine cl_V (As := []) (rest := []) (w_Writer_this_names_out cI ad o_names r6) [] ⟨hx, hb, hml, hown, hts⟩ (c_Writer_part l D cI sd ad r5 r6 hcr6) (cwV2 hts q880 mvX5_part rfl rfl ⟨(Nat.le_of_ble_eq_true rfl), (Nat.le_of_ble_eq_true rfl)⟩) hK hE hA hP hD hS 0 (T := TX5) (N := 3) (ci := 5) rfl rfl [0, 6, 7] rfl (by decide) rfl rfl rfl rfl rfl rfl hl.1 (Nat.le_of_ble_eq_true rfl) dX5_number_11 ⟨Nat.zero_le _, Nat.zero_le _⟩ (fun H locs hP hD hS => ?_)
    refine lv_aload_n hx hb dX5_number_14 rfl (lv_at hl 0 rfl) ?_
    refine lv_iload_n hx hb dX5_number_15 rfl (lv_at hl 1 rfl) ?_
    obtain ⟨r7, hcr7, hM⟩ := ob_use hM
    refine cl_S (As := [.int a1]) (rest := [.ref (ad 23)]) (w_Writer_this_names_out cI ad o_names r6) (.int r7 :: [.ref (ad 23)]) ⟨hx, hb, hml, hown, hts⟩ (c_Math_abs l D cI sd ad a1 r7 hcr7) (cwS2 hts q945 mvX10_abs rfl rfl ⟨(Nat.le_of_ble_eq_true rfl), (Nat.le_of_ble_eq_true rfl)⟩) hK hE hA hP hD hS [] rfl (by decide) rfl rfl rfl rfl rfl rfl hl.1 (Nat.le_of_ble_eq_true rfl) dX5_number_16 ⟨Nat.zero_le _, Nat.zero_le _⟩ (fun H locs hP hD hS => ?_)
    obtain ⟨r8, hcr8, hM⟩ := ob_use hM
    refine cl_V (As := [.int r7]) (rest := []) (w_Writer_this_names_out cI ad o_names r8) [] ⟨hx, hb, hml, hown, hts⟩ (c_Writer_digits l D cI sd ad r6 r7 r8 hcr8) (cwV2 hts q948 mvX5_digits rfl rfl ⟨(Nat.le_of_ble_eq_true rfl), (Nat.le_of_ble_eq_true rfl)⟩) hK hE hA hP hD hS 0 (T := TX5) (N := 3) (ci := 5) rfl rfl [0, 6, 7] rfl (by decide) rfl rfl rfl rfl rfl rfl hl.1 (Nat.le_of_ble_eq_true rfl) dX5_number_19 ⟨Nat.zero_le _, Nat.zero_le _⟩ (fun H locs hP hD hS => ?_)
    cases hM
    exact rt_v hx hb hr hlk hP hD hS rfl dX5_number_22

set_option maxHeartbeats 4000000 in
set_option maxRecDepth 100000 in
theorem c_Writer_place (l : Launch) (D : va_G) (cI : ClassId) (sd : Nat → Nat) (ad : Nat → Nat) (o_names : S_Names) (o_out : S_Bytes) (a1 : Int32) (res : S_Bytes) (hM : f_Writer_place o_names o_out a1 = some res) : Ctr l D cI sd yX5_place (wsM yX5_place cX5_place 4 (Option.none : Option Jvm.ClassFile.FieldType)) { frames := 4, cells := 0, slots := 0, locals := 85 } [.ref (ad 23), .int a1] (w_Writer_this_names_out cI ad o_names o_out) (w_Writer_this_names_out cI ad o_names res) none := by
  refine Ctr.of (cc := cX5_place) (maxL := 4) (own := RX5) (by decide +kernel) rfl rfl (Nat.le_of_ble_eq_true rfl) ?_
  intro p e s m below meth c A ls hx hb hr hml hown hts hlk hK hE hA hP hD hS hl
  have hl : lv_has ls 4 [(0, .ref (ad 23)), (1, .int a1)] := hl
  unfold f_Writer_place at hM
  refine lv_iload_n hx hb dX5_place_0 rfl (lv_at hl 1 rfl) ?_
  refine lv_bipush (v := 8) hx hb dX5_place_1 (by decide) ?_
  refine lv_ishr hx hb dX5_place_3 ?_
  refine lv_istore_n (lv' := [(2, .int (a1 >>> (8 &&& 31))), (0, .ref (ad 23)), (1, .int a1)]) hx hb dX5_place_4 rfl hl (by decide) rfl (fun ls hl => ?_)
  refine lv_iload_n hx hb dX5_place_5 rfl (lv_at hl 0 rfl) ?_
  refine lv_iconst (v := 3) hx hb dX5_place_6 (by decide) ?_
  refine lv_icmp_ge (tgt := 14) hx hb dX5_place_7 (by decide) (fun c1 => ?_) (fun c1 => ?_)
  · replace hM := if_t c1 hM
    refine lv_iload_n hx hb dX5_place_14 rfl (lv_at hl 0 rfl) ?_
    refine lv_iconst (v := 3) hx hb dX5_place_15 (by decide) ?_
    refine lv_isub hx hb dX5_place_16 ?_
    refine lv_istore_n (lv' := [(3, .int ((a1 >>> (8 &&& 31)) - 3)), (2, .int (a1 >>> (8 &&& 31))), (0, .ref (ad 23)), (1, .int a1)]) hx hb dX5_place_17 rfl hl (by decide) rfl (fun ls hl => ?_)
    refine lv_aload_n hx hb dX5_place_18 rfl (lv_at hl 2 rfl) ?_
    refine lv_bipush (v := 37) hx hb dX5_place_19 (by decide) ?_
    obtain ⟨r2, hcr2, hM⟩ := ob_use hM
    refine cl_V (As := [.int 37]) (rest := []) (w_Writer_this_names_out cI ad o_names r2) [] ⟨hx, hb, hml, hown, hts⟩ (c_Writer_token l D cI sd ad o_names o_out 37 r2 hcr2) (cwV2 hts q872 mvX5_token rfl rfl ⟨(Nat.le_of_ble_eq_true rfl), (Nat.le_of_ble_eq_true rfl)⟩) hK hE hA hP hD hS 0 (T := TX5) (N := 3) (ci := 5) rfl rfl [0, 1, 2, 3, 4, 5, 6, 7] rfl (by decide) rfl rfl rfl rfl rfl rfl hl.1 (Nat.le_of_ble_eq_true rfl) dX5_place_21 ⟨Nat.zero_le _, Nat.zero_le _⟩ (fun H locs hP hD hS => ?_)
    refine lv_aload_n hx hb dX5_place_24 rfl (lv_at hl 2 rfl) ?_
    refine va_get (D := D) (ci := 5) (v := .ref (ad 3)) (C := RX5) (T := TX5) (N := 3) hx hb hts layX5 hown hK hP 0 rfl rfl 2 (by decide) (hts _ (inA q444)) (fun _ h9 => h9) rfl dX5_place_25 ?_
    refine lv_iload_n hx hb dX5_place_28 rfl (lv_at hl 0 rfl) ?_
    refine lv_if_ne (tgt := 37) hx hb dX5_place_29 (by decide) (fun c3 => ?_) (fun c3 => ?_)
    · replace hM := if_f c3 hM
      refine lv_iload_n hx hb dX5_place_37 rfl (lv_at hl 0 rfl) ?_
      refine lv_iconst (v := 1) hx hb dX5_place_38 (by decide) ?_
      refine lv_icmp_ne (tgt := 47) hx hb dX5_place_39 (by decide) (fun c4 => ?_) (fun c4 => ?_)
      · replace hM := if_f c4 hM
        refine lv_bipush (v := 77) hx hb dX5_place_47 (by decide) ?_
        obtain ⟨r5, hcr5, hM⟩ := ob_use hM
        refine cl_V (As := [.int 77]) (rest := []) (w_Writer_this_names_out cI ad o_names r5) [] ⟨hx, hb, hml, hown, hts⟩ (c_Bytes_put l D cI sd (ad 3) (ad 4) 16384 r2 77 r5 hcr5) (cwV2 hts q886 mvX0_put rfl rfl ⟨(Nat.le_of_ble_eq_true rfl), (Nat.le_of_ble_eq_true rfl)⟩) hK hE hA hP hD hS 6 (T := TX0) (N := 2) (ci := 0) rfl rfl [6, 7] rfl (by decide) rfl rfl rfl rfl rfl rfl hl.1 (Nat.le_of_ble_eq_true rfl) dX5_place_49 ⟨Nat.zero_le _, Nat.zero_le _⟩ (fun H locs hP hD hS => ?_)
        refine lv_aload_n hx hb dX5_place_52 rfl (lv_at hl 2 rfl) ?_
        refine va_get (D := D) (ci := 5) (v := .ref (ad 3)) (C := RX5) (T := TX5) (N := 3) hx hb hts layX5 hown hK hP 0 rfl rfl 2 (by decide) (hts _ (inA q444)) (fun _ h9 => h9) rfl dX5_place_53 ?_
        refine lv_iload_n hx hb dX5_place_56 rfl (lv_at hl 1 rfl) ?_
        refine lv_iconst (v := 3) hx hb dX5_place_57 (by decide) ?_
        refine lv_icmp_ge (tgt := 66) hx hb dX5_place_58 (by decide) (fun c6 => ?_) (fun c6 => ?_)
        · replace hM := if_t c6 hM
          refine lv_bipush (v := 87) hx hb dX5_place_66 (by decide) ?_
          obtain ⟨r7, hcr7, hM⟩ := ob_use hM
          refine cl_V (As := [.int 87]) (rest := []) (w_Writer_this_names_out cI ad o_names r7) [] ⟨hx, hb, hml, hown, hts⟩ (c_Bytes_put l D cI sd (ad 3) (ad 4) 16384 r5 87 r7 hcr7) (cwV2 hts q886 mvX0_put rfl rfl ⟨(Nat.le_of_ble_eq_true rfl), (Nat.le_of_ble_eq_true rfl)⟩) hK hE hA hP hD hS 6 (T := TX0) (N := 2) (ci := 0) rfl rfl [6, 7] rfl (by decide) rfl rfl rfl rfl rfl rfl hl.1 (Nat.le_of_ble_eq_true rfl) dX5_place_68 ⟨Nat.zero_le _, Nat.zero_le _⟩ (fun H locs hP hD hS => ?_)
          refine lv_aload_n hx hb dX5_place_71 rfl (lv_at hl 2 rfl) ?_
          refine lv_iload_n hx hb dX5_place_72 rfl (lv_at hl 3 rfl) ?_
          refine lv_sipush (v := 255) hx hb dX5_place_73 (by decide) ?_
          refine lv_iand hx hb dX5_place_76 ?_
          obtain ⟨r8, hcr8, hM⟩ := ob_use hM
          refine cl_V (As := [.int (a1 &&& 255)]) (rest := []) (w_Writer_this_names_out cI ad o_names r8) [] ⟨hx, hb, hml, hown, hts⟩ (c_Writer_digits l D cI sd ad r7 (a1 &&& 255) r8 hcr8) (cwV2 hts q948 mvX5_digits rfl rfl ⟨(Nat.le_of_ble_eq_true rfl), (Nat.le_of_ble_eq_true rfl)⟩) hK hE hA hP hD hS 0 (T := TX5) (N := 3) (ci := 5) rfl rfl [0, 6, 7] rfl (by decide) rfl rfl rfl rfl rfl rfl hl.1 (Nat.le_of_ble_eq_true rfl) dX5_place_77 ⟨Nat.zero_le _, Nat.zero_le _⟩ (fun H locs hP hD hS => ?_)
          cases hM
          exact rt_v hx hb hr hlk hP hD hS rfl dX5_place_80
        · replace hM := if_f c6 hM
          refine lv_bipush (v := 88) hx hb dX5_place_61 (by decide) ?_
          refine lv_goto (tgt := 68) hx hb dX5_place_63 (by decide) ?_
          obtain ⟨r9, hcr9, hM⟩ := ob_use hM
          refine cl_V (As := [.int 88]) (rest := []) (w_Writer_this_names_out cI ad o_names r9) [] ⟨hx, hb, hml, hown, hts⟩ (c_Bytes_put l D cI sd (ad 3) (ad 4) 16384 r5 88 r9 hcr9) (cwV2 hts q886 mvX0_put rfl rfl ⟨(Nat.le_of_ble_eq_true rfl), (Nat.le_of_ble_eq_true rfl)⟩) hK hE hA hP hD hS 6 (T := TX0) (N := 2) (ci := 0) rfl rfl [6, 7] rfl (by decide) rfl rfl rfl rfl rfl rfl hl.1 (Nat.le_of_ble_eq_true rfl) dX5_place_68 ⟨Nat.zero_le _, Nat.zero_le _⟩ (fun H locs hP hD hS => ?_)
          refine lv_aload_n hx hb dX5_place_71 rfl (lv_at hl 2 rfl) ?_
          refine lv_iload_n hx hb dX5_place_72 rfl (lv_at hl 3 rfl) ?_
          refine lv_sipush (v := 255) hx hb dX5_place_73 (by decide) ?_
          refine lv_iand hx hb dX5_place_76 ?_
          obtain ⟨r10, hcr10, hM⟩ := ob_use hM
          refine cl_V (As := [.int (a1 &&& 255)]) (rest := []) (w_Writer_this_names_out cI ad o_names r10) [] ⟨hx, hb, hml, hown, hts⟩ (c_Writer_digits l D cI sd ad r9 (a1 &&& 255) r10 hcr10) (cwV2 hts q948 mvX5_digits rfl rfl ⟨(Nat.le_of_ble_eq_true rfl), (Nat.le_of_ble_eq_true rfl)⟩) hK hE hA hP hD hS 0 (T := TX5) (N := 3) (ci := 5) rfl rfl [0, 6, 7] rfl (by decide) rfl rfl rfl rfl rfl rfl hl.1 (Nat.le_of_ble_eq_true rfl) dX5_place_77 ⟨Nat.zero_le _, Nat.zero_le _⟩ (fun H locs hP hD hS => ?_)
          cases hM
          exact rt_v hx hb hr hlk hP hD hS rfl dX5_place_80
      · replace hM := if_t c4 hM
        refine lv_bipush (v := 81) hx hb dX5_place_42 (by decide) ?_
        refine lv_goto (tgt := 49) hx hb dX5_place_44 (by decide) ?_
        obtain ⟨r11, hcr11, hM⟩ := ob_use hM
        refine cl_V (As := [.int 81]) (rest := []) (w_Writer_this_names_out cI ad o_names r11) [] ⟨hx, hb, hml, hown, hts⟩ (c_Bytes_put l D cI sd (ad 3) (ad 4) 16384 r2 81 r11 hcr11) (cwV2 hts q886 mvX0_put rfl rfl ⟨(Nat.le_of_ble_eq_true rfl), (Nat.le_of_ble_eq_true rfl)⟩) hK hE hA hP hD hS 6 (T := TX0) (N := 2) (ci := 0) rfl rfl [6, 7] rfl (by decide) rfl rfl rfl rfl rfl rfl hl.1 (Nat.le_of_ble_eq_true rfl) dX5_place_49 ⟨Nat.zero_le _, Nat.zero_le _⟩ (fun H locs hP hD hS => ?_)
        refine lv_aload_n hx hb dX5_place_52 rfl (lv_at hl 2 rfl) ?_
        refine va_get (D := D) (ci := 5) (v := .ref (ad 3)) (C := RX5) (T := TX5) (N := 3) hx hb hts layX5 hown hK hP 0 rfl rfl 2 (by decide) (hts _ (inA q444)) (fun _ h9 => h9) rfl dX5_place_53 ?_
        refine lv_iload_n hx hb dX5_place_56 rfl (lv_at hl 1 rfl) ?_
        refine lv_iconst (v := 3) hx hb dX5_place_57 (by decide) ?_
        refine lv_icmp_ge (tgt := 66) hx hb dX5_place_58 (by decide) (fun c12 => ?_) (fun c12 => ?_)
        · replace hM := if_t c12 hM
          refine lv_bipush (v := 87) hx hb dX5_place_66 (by decide) ?_
          obtain ⟨r13, hcr13, hM⟩ := ob_use hM
          refine cl_V (As := [.int 87]) (rest := []) (w_Writer_this_names_out cI ad o_names r13) [] ⟨hx, hb, hml, hown, hts⟩ (c_Bytes_put l D cI sd (ad 3) (ad 4) 16384 r11 87 r13 hcr13) (cwV2 hts q886 mvX0_put rfl rfl ⟨(Nat.le_of_ble_eq_true rfl), (Nat.le_of_ble_eq_true rfl)⟩) hK hE hA hP hD hS 6 (T := TX0) (N := 2) (ci := 0) rfl rfl [6, 7] rfl (by decide) rfl rfl rfl rfl rfl rfl hl.1 (Nat.le_of_ble_eq_true rfl) dX5_place_68 ⟨Nat.zero_le _, Nat.zero_le _⟩ (fun H locs hP hD hS => ?_)
          refine lv_aload_n hx hb dX5_place_71 rfl (lv_at hl 2 rfl) ?_
          refine lv_iload_n hx hb dX5_place_72 rfl (lv_at hl 3 rfl) ?_
          refine lv_sipush (v := 255) hx hb dX5_place_73 (by decide) ?_
          refine lv_iand hx hb dX5_place_76 ?_
          obtain ⟨r14, hcr14, hM⟩ := ob_use hM
          refine cl_V (As := [.int (a1 &&& 255)]) (rest := []) (w_Writer_this_names_out cI ad o_names r14) [] ⟨hx, hb, hml, hown, hts⟩ (c_Writer_digits l D cI sd ad r13 (a1 &&& 255) r14 hcr14) (cwV2 hts q948 mvX5_digits rfl rfl ⟨(Nat.le_of_ble_eq_true rfl), (Nat.le_of_ble_eq_true rfl)⟩) hK hE hA hP hD hS 0 (T := TX5) (N := 3) (ci := 5) rfl rfl [0, 6, 7] rfl (by decide) rfl rfl rfl rfl rfl rfl hl.1 (Nat.le_of_ble_eq_true rfl) dX5_place_77 ⟨Nat.zero_le _, Nat.zero_le _⟩ (fun H locs hP hD hS => ?_)
          cases hM
          exact rt_v hx hb hr hlk hP hD hS rfl dX5_place_80
        · replace hM := if_f c12 hM
          refine lv_bipush (v := 88) hx hb dX5_place_61 (by decide) ?_
          refine lv_goto (tgt := 68) hx hb dX5_place_63 (by decide) ?_
          obtain ⟨r15, hcr15, hM⟩ := ob_use hM
          refine cl_V (As := [.int 88]) (rest := []) (w_Writer_this_names_out cI ad o_names r15) [] ⟨hx, hb, hml, hown, hts⟩ (c_Bytes_put l D cI sd (ad 3) (ad 4) 16384 r11 88 r15 hcr15) (cwV2 hts q886 mvX0_put rfl rfl ⟨(Nat.le_of_ble_eq_true rfl), (Nat.le_of_ble_eq_true rfl)⟩) hK hE hA hP hD hS 6 (T := TX0) (N := 2) (ci := 0) rfl rfl [6, 7] rfl (by decide) rfl rfl rfl rfl rfl rfl hl.1 (Nat.le_of_ble_eq_true rfl) dX5_place_68 ⟨Nat.zero_le _, Nat.zero_le _⟩ (fun H locs hP hD hS => ?_)
          refine lv_aload_n hx hb dX5_place_71 rfl (lv_at hl 2 rfl) ?_
          refine lv_iload_n hx hb dX5_place_72 rfl (lv_at hl 3 rfl) ?_
          refine lv_sipush (v := 255) hx hb dX5_place_73 (by decide) ?_
          refine lv_iand hx hb dX5_place_76 ?_
          obtain ⟨r16, hcr16, hM⟩ := ob_use hM
          refine cl_V (As := [.int (a1 &&& 255)]) (rest := []) (w_Writer_this_names_out cI ad o_names r16) [] ⟨hx, hb, hml, hown, hts⟩ (c_Writer_digits l D cI sd ad r15 (a1 &&& 255) r16 hcr16) (cwV2 hts q948 mvX5_digits rfl rfl ⟨(Nat.le_of_ble_eq_true rfl), (Nat.le_of_ble_eq_true rfl)⟩) hK hE hA hP hD hS 0 (T := TX5) (N := 3) (ci := 5) rfl rfl [0, 6, 7] rfl (by decide) rfl rfl rfl rfl rfl rfl hl.1 (Nat.le_of_ble_eq_true rfl) dX5_place_77 ⟨Nat.zero_le _, Nat.zero_le _⟩ (fun H locs hP hD hS => ?_)
          cases hM
          exact rt_v hx hb hr hlk hP hD hS rfl dX5_place_80
    · replace hM := if_t c3 hM
      refine lv_bipush (v := 73) hx hb dX5_place_32 (by decide) ?_
      refine lv_goto (tgt := 49) hx hb dX5_place_34 (by decide) ?_
      obtain ⟨r17, hcr17, hM⟩ := ob_use hM
      refine cl_V (As := [.int 73]) (rest := []) (w_Writer_this_names_out cI ad o_names r17) [] ⟨hx, hb, hml, hown, hts⟩ (c_Bytes_put l D cI sd (ad 3) (ad 4) 16384 r2 73 r17 hcr17) (cwV2 hts q886 mvX0_put rfl rfl ⟨(Nat.le_of_ble_eq_true rfl), (Nat.le_of_ble_eq_true rfl)⟩) hK hE hA hP hD hS 6 (T := TX0) (N := 2) (ci := 0) rfl rfl [6, 7] rfl (by decide) rfl rfl rfl rfl rfl rfl hl.1 (Nat.le_of_ble_eq_true rfl) dX5_place_49 ⟨Nat.zero_le _, Nat.zero_le _⟩ (fun H locs hP hD hS => ?_)
      refine lv_aload_n hx hb dX5_place_52 rfl (lv_at hl 2 rfl) ?_
      refine va_get (D := D) (ci := 5) (v := .ref (ad 3)) (C := RX5) (T := TX5) (N := 3) hx hb hts layX5 hown hK hP 0 rfl rfl 2 (by decide) (hts _ (inA q444)) (fun _ h9 => h9) rfl dX5_place_53 ?_
      refine lv_iload_n hx hb dX5_place_56 rfl (lv_at hl 1 rfl) ?_
      refine lv_iconst (v := 3) hx hb dX5_place_57 (by decide) ?_
      refine lv_icmp_ge (tgt := 66) hx hb dX5_place_58 (by decide) (fun c18 => ?_) (fun c18 => ?_)
      · replace hM := if_t c18 hM
        refine lv_bipush (v := 87) hx hb dX5_place_66 (by decide) ?_
        obtain ⟨r19, hcr19, hM⟩ := ob_use hM
        refine cl_V (As := [.int 87]) (rest := []) (w_Writer_this_names_out cI ad o_names r19) [] ⟨hx, hb, hml, hown, hts⟩ (c_Bytes_put l D cI sd (ad 3) (ad 4) 16384 r17 87 r19 hcr19) (cwV2 hts q886 mvX0_put rfl rfl ⟨(Nat.le_of_ble_eq_true rfl), (Nat.le_of_ble_eq_true rfl)⟩) hK hE hA hP hD hS 6 (T := TX0) (N := 2) (ci := 0) rfl rfl [6, 7] rfl (by decide) rfl rfl rfl rfl rfl rfl hl.1 (Nat.le_of_ble_eq_true rfl) dX5_place_68 ⟨Nat.zero_le _, Nat.zero_le _⟩ (fun H locs hP hD hS => ?_)
        refine lv_aload_n hx hb dX5_place_71 rfl (lv_at hl 2 rfl) ?_
        refine lv_iload_n hx hb dX5_place_72 rfl (lv_at hl 3 rfl) ?_
        refine lv_sipush (v := 255) hx hb dX5_place_73 (by decide) ?_
        refine lv_iand hx hb dX5_place_76 ?_
        obtain ⟨r20, hcr20, hM⟩ := ob_use hM
        refine cl_V (As := [.int (a1 &&& 255)]) (rest := []) (w_Writer_this_names_out cI ad o_names r20) [] ⟨hx, hb, hml, hown, hts⟩ (c_Writer_digits l D cI sd ad r19 (a1 &&& 255) r20 hcr20) (cwV2 hts q948 mvX5_digits rfl rfl ⟨(Nat.le_of_ble_eq_true rfl), (Nat.le_of_ble_eq_true rfl)⟩) hK hE hA hP hD hS 0 (T := TX5) (N := 3) (ci := 5) rfl rfl [0, 6, 7] rfl (by decide) rfl rfl rfl rfl rfl rfl hl.1 (Nat.le_of_ble_eq_true rfl) dX5_place_77 ⟨Nat.zero_le _, Nat.zero_le _⟩ (fun H locs hP hD hS => ?_)
        cases hM
        exact rt_v hx hb hr hlk hP hD hS rfl dX5_place_80
      · replace hM := if_f c18 hM
        refine lv_bipush (v := 88) hx hb dX5_place_61 (by decide) ?_
        refine lv_goto (tgt := 68) hx hb dX5_place_63 (by decide) ?_
        obtain ⟨r21, hcr21, hM⟩ := ob_use hM
        refine cl_V (As := [.int 88]) (rest := []) (w_Writer_this_names_out cI ad o_names r21) [] ⟨hx, hb, hml, hown, hts⟩ (c_Bytes_put l D cI sd (ad 3) (ad 4) 16384 r17 88 r21 hcr21) (cwV2 hts q886 mvX0_put rfl rfl ⟨(Nat.le_of_ble_eq_true rfl), (Nat.le_of_ble_eq_true rfl)⟩) hK hE hA hP hD hS 6 (T := TX0) (N := 2) (ci := 0) rfl rfl [6, 7] rfl (by decide) rfl rfl rfl rfl rfl rfl hl.1 (Nat.le_of_ble_eq_true rfl) dX5_place_68 ⟨Nat.zero_le _, Nat.zero_le _⟩ (fun H locs hP hD hS => ?_)
        refine lv_aload_n hx hb dX5_place_71 rfl (lv_at hl 2 rfl) ?_
        refine lv_iload_n hx hb dX5_place_72 rfl (lv_at hl 3 rfl) ?_
        refine lv_sipush (v := 255) hx hb dX5_place_73 (by decide) ?_
        refine lv_iand hx hb dX5_place_76 ?_
        obtain ⟨r22, hcr22, hM⟩ := ob_use hM
        refine cl_V (As := [.int (a1 &&& 255)]) (rest := []) (w_Writer_this_names_out cI ad o_names r22) [] ⟨hx, hb, hml, hown, hts⟩ (c_Writer_digits l D cI sd ad r21 (a1 &&& 255) r22 hcr22) (cwV2 hts q948 mvX5_digits rfl rfl ⟨(Nat.le_of_ble_eq_true rfl), (Nat.le_of_ble_eq_true rfl)⟩) hK hE hA hP hD hS 0 (T := TX5) (N := 3) (ci := 5) rfl rfl [0, 6, 7] rfl (by decide) rfl rfl rfl rfl rfl rfl hl.1 (Nat.le_of_ble_eq_true rfl) dX5_place_77 ⟨Nat.zero_le _, Nat.zero_le _⟩ (fun H locs hP hD hS => ?_)
        cases hM
        exact rt_v hx hb hr hlk hP hD hS rfl dX5_place_80
  · replace hM := if_f c1 hM
    refine lv_iload_n hx hb dX5_place_10 rfl (lv_at hl 0 rfl) ?_
    refine lv_goto (tgt := 17) hx hb dX5_place_11 (by decide) ?_
    refine lv_istore_n (lv' := [(3, .int (a1 >>> (8 &&& 31))), (2, .int (a1 >>> (8 &&& 31))), (0, .ref (ad 23)), (1, .int a1)]) hx hb dX5_place_17 rfl hl (by decide) rfl (fun ls hl => ?_)
    refine lv_aload_n hx hb dX5_place_18 rfl (lv_at hl 2 rfl) ?_
    refine lv_bipush (v := 37) hx hb dX5_place_19 (by decide) ?_
    obtain ⟨r23, hcr23, hM⟩ := ob_use hM
    refine cl_V (As := [.int 37]) (rest := []) (w_Writer_this_names_out cI ad o_names r23) [] ⟨hx, hb, hml, hown, hts⟩ (c_Writer_token l D cI sd ad o_names o_out 37 r23 hcr23) (cwV2 hts q872 mvX5_token rfl rfl ⟨(Nat.le_of_ble_eq_true rfl), (Nat.le_of_ble_eq_true rfl)⟩) hK hE hA hP hD hS 0 (T := TX5) (N := 3) (ci := 5) rfl rfl [0, 1, 2, 3, 4, 5, 6, 7] rfl (by decide) rfl rfl rfl rfl rfl rfl hl.1 (Nat.le_of_ble_eq_true rfl) dX5_place_21 ⟨Nat.zero_le _, Nat.zero_le _⟩ (fun H locs hP hD hS => ?_)
    refine lv_aload_n hx hb dX5_place_24 rfl (lv_at hl 2 rfl) ?_
    refine va_get (D := D) (ci := 5) (v := .ref (ad 3)) (C := RX5) (T := TX5) (N := 3) hx hb hts layX5 hown hK hP 0 rfl rfl 2 (by decide) (hts _ (inA q444)) (fun _ h9 => h9) rfl dX5_place_25 ?_
    refine lv_iload_n hx hb dX5_place_28 rfl (lv_at hl 0 rfl) ?_
    refine lv_if_ne (tgt := 37) hx hb dX5_place_29 (by decide) (fun c24 => ?_) (fun c24 => ?_)
    · replace hM := if_f c24 hM
      refine lv_iload_n hx hb dX5_place_37 rfl (lv_at hl 0 rfl) ?_
      refine lv_iconst (v := 1) hx hb dX5_place_38 (by decide) ?_
      refine lv_icmp_ne (tgt := 47) hx hb dX5_place_39 (by decide) (fun c25 => ?_) (fun c25 => ?_)
      · replace hM := if_f c25 hM
        refine lv_bipush (v := 77) hx hb dX5_place_47 (by decide) ?_
        obtain ⟨r26, hcr26, hM⟩ := ob_use hM
        refine cl_V (As := [.int 77]) (rest := []) (w_Writer_this_names_out cI ad o_names r26) [] ⟨hx, hb, hml, hown, hts⟩ (c_Bytes_put l D cI sd (ad 3) (ad 4) 16384 r23 77 r26 hcr26) (cwV2 hts q886 mvX0_put rfl rfl ⟨(Nat.le_of_ble_eq_true rfl), (Nat.le_of_ble_eq_true rfl)⟩) hK hE hA hP hD hS 6 (T := TX0) (N := 2) (ci := 0) rfl rfl [6, 7] rfl (by decide) rfl rfl rfl rfl rfl rfl hl.1 (Nat.le_of_ble_eq_true rfl) dX5_place_49 ⟨Nat.zero_le _, Nat.zero_le _⟩ (fun H locs hP hD hS => ?_)
        refine lv_aload_n hx hb dX5_place_52 rfl (lv_at hl 2 rfl) ?_
        refine va_get (D := D) (ci := 5) (v := .ref (ad 3)) (C := RX5) (T := TX5) (N := 3) hx hb hts layX5 hown hK hP 0 rfl rfl 2 (by decide) (hts _ (inA q444)) (fun _ h9 => h9) rfl dX5_place_53 ?_
        refine lv_iload_n hx hb dX5_place_56 rfl (lv_at hl 1 rfl) ?_
        refine lv_iconst (v := 3) hx hb dX5_place_57 (by decide) ?_
        refine lv_icmp_ge (tgt := 66) hx hb dX5_place_58 (by decide) (fun c27 => ?_) (fun c27 => ?_)
        · replace hM := if_t c27 hM
          refine lv_bipush (v := 87) hx hb dX5_place_66 (by decide) ?_
          obtain ⟨r28, hcr28, hM⟩ := ob_use hM
          refine cl_V (As := [.int 87]) (rest := []) (w_Writer_this_names_out cI ad o_names r28) [] ⟨hx, hb, hml, hown, hts⟩ (c_Bytes_put l D cI sd (ad 3) (ad 4) 16384 r26 87 r28 hcr28) (cwV2 hts q886 mvX0_put rfl rfl ⟨(Nat.le_of_ble_eq_true rfl), (Nat.le_of_ble_eq_true rfl)⟩) hK hE hA hP hD hS 6 (T := TX0) (N := 2) (ci := 0) rfl rfl [6, 7] rfl (by decide) rfl rfl rfl rfl rfl rfl hl.1 (Nat.le_of_ble_eq_true rfl) dX5_place_68 ⟨Nat.zero_le _, Nat.zero_le _⟩ (fun H locs hP hD hS => ?_)
          refine lv_aload_n hx hb dX5_place_71 rfl (lv_at hl 2 rfl) ?_
          refine lv_iload_n hx hb dX5_place_72 rfl (lv_at hl 3 rfl) ?_
          refine lv_sipush (v := 255) hx hb dX5_place_73 (by decide) ?_
          refine lv_iand hx hb dX5_place_76 ?_
          obtain ⟨r29, hcr29, hM⟩ := ob_use hM
          refine cl_V (As := [.int (a1 &&& 255)]) (rest := []) (w_Writer_this_names_out cI ad o_names r29) [] ⟨hx, hb, hml, hown, hts⟩ (c_Writer_digits l D cI sd ad r28 (a1 &&& 255) r29 hcr29) (cwV2 hts q948 mvX5_digits rfl rfl ⟨(Nat.le_of_ble_eq_true rfl), (Nat.le_of_ble_eq_true rfl)⟩) hK hE hA hP hD hS 0 (T := TX5) (N := 3) (ci := 5) rfl rfl [0, 6, 7] rfl (by decide) rfl rfl rfl rfl rfl rfl hl.1 (Nat.le_of_ble_eq_true rfl) dX5_place_77 ⟨Nat.zero_le _, Nat.zero_le _⟩ (fun H locs hP hD hS => ?_)
          cases hM
          exact rt_v hx hb hr hlk hP hD hS rfl dX5_place_80
        · replace hM := if_f c27 hM
          refine lv_bipush (v := 88) hx hb dX5_place_61 (by decide) ?_
          refine lv_goto (tgt := 68) hx hb dX5_place_63 (by decide) ?_
          obtain ⟨r30, hcr30, hM⟩ := ob_use hM
          refine cl_V (As := [.int 88]) (rest := []) (w_Writer_this_names_out cI ad o_names r30) [] ⟨hx, hb, hml, hown, hts⟩ (c_Bytes_put l D cI sd (ad 3) (ad 4) 16384 r26 88 r30 hcr30) (cwV2 hts q886 mvX0_put rfl rfl ⟨(Nat.le_of_ble_eq_true rfl), (Nat.le_of_ble_eq_true rfl)⟩) hK hE hA hP hD hS 6 (T := TX0) (N := 2) (ci := 0) rfl rfl [6, 7] rfl (by decide) rfl rfl rfl rfl rfl rfl hl.1 (Nat.le_of_ble_eq_true rfl) dX5_place_68 ⟨Nat.zero_le _, Nat.zero_le _⟩ (fun H locs hP hD hS => ?_)
          refine lv_aload_n hx hb dX5_place_71 rfl (lv_at hl 2 rfl) ?_
          refine lv_iload_n hx hb dX5_place_72 rfl (lv_at hl 3 rfl) ?_
          refine lv_sipush (v := 255) hx hb dX5_place_73 (by decide) ?_
          refine lv_iand hx hb dX5_place_76 ?_
          obtain ⟨r31, hcr31, hM⟩ := ob_use hM
          refine cl_V (As := [.int (a1 &&& 255)]) (rest := []) (w_Writer_this_names_out cI ad o_names r31) [] ⟨hx, hb, hml, hown, hts⟩ (c_Writer_digits l D cI sd ad r30 (a1 &&& 255) r31 hcr31) (cwV2 hts q948 mvX5_digits rfl rfl ⟨(Nat.le_of_ble_eq_true rfl), (Nat.le_of_ble_eq_true rfl)⟩) hK hE hA hP hD hS 0 (T := TX5) (N := 3) (ci := 5) rfl rfl [0, 6, 7] rfl (by decide) rfl rfl rfl rfl rfl rfl hl.1 (Nat.le_of_ble_eq_true rfl) dX5_place_77 ⟨Nat.zero_le _, Nat.zero_le _⟩ (fun H locs hP hD hS => ?_)
          cases hM
          exact rt_v hx hb hr hlk hP hD hS rfl dX5_place_80
      · replace hM := if_t c25 hM
        refine lv_bipush (v := 81) hx hb dX5_place_42 (by decide) ?_
        refine lv_goto (tgt := 49) hx hb dX5_place_44 (by decide) ?_
        obtain ⟨r32, hcr32, hM⟩ := ob_use hM
        refine cl_V (As := [.int 81]) (rest := []) (w_Writer_this_names_out cI ad o_names r32) [] ⟨hx, hb, hml, hown, hts⟩ (c_Bytes_put l D cI sd (ad 3) (ad 4) 16384 r23 81 r32 hcr32) (cwV2 hts q886 mvX0_put rfl rfl ⟨(Nat.le_of_ble_eq_true rfl), (Nat.le_of_ble_eq_true rfl)⟩) hK hE hA hP hD hS 6 (T := TX0) (N := 2) (ci := 0) rfl rfl [6, 7] rfl (by decide) rfl rfl rfl rfl rfl rfl hl.1 (Nat.le_of_ble_eq_true rfl) dX5_place_49 ⟨Nat.zero_le _, Nat.zero_le _⟩ (fun H locs hP hD hS => ?_)
        refine lv_aload_n hx hb dX5_place_52 rfl (lv_at hl 2 rfl) ?_
        refine va_get (D := D) (ci := 5) (v := .ref (ad 3)) (C := RX5) (T := TX5) (N := 3) hx hb hts layX5 hown hK hP 0 rfl rfl 2 (by decide) (hts _ (inA q444)) (fun _ h9 => h9) rfl dX5_place_53 ?_
        refine lv_iload_n hx hb dX5_place_56 rfl (lv_at hl 1 rfl) ?_
        refine lv_iconst (v := 3) hx hb dX5_place_57 (by decide) ?_
        refine lv_icmp_ge (tgt := 66) hx hb dX5_place_58 (by decide) (fun c33 => ?_) (fun c33 => ?_)
        · replace hM := if_t c33 hM
          refine lv_bipush (v := 87) hx hb dX5_place_66 (by decide) ?_
          obtain ⟨r34, hcr34, hM⟩ := ob_use hM
          refine cl_V (As := [.int 87]) (rest := []) (w_Writer_this_names_out cI ad o_names r34) [] ⟨hx, hb, hml, hown, hts⟩ (c_Bytes_put l D cI sd (ad 3) (ad 4) 16384 r32 87 r34 hcr34) (cwV2 hts q886 mvX0_put rfl rfl ⟨(Nat.le_of_ble_eq_true rfl), (Nat.le_of_ble_eq_true rfl)⟩) hK hE hA hP hD hS 6 (T := TX0) (N := 2) (ci := 0) rfl rfl [6, 7] rfl (by decide) rfl rfl rfl rfl rfl rfl hl.1 (Nat.le_of_ble_eq_true rfl) dX5_place_68 ⟨Nat.zero_le _, Nat.zero_le _⟩ (fun H locs hP hD hS => ?_)
          refine lv_aload_n hx hb dX5_place_71 rfl (lv_at hl 2 rfl) ?_
          refine lv_iload_n hx hb dX5_place_72 rfl (lv_at hl 3 rfl) ?_
          refine lv_sipush (v := 255) hx hb dX5_place_73 (by decide) ?_
          refine lv_iand hx hb dX5_place_76 ?_
          obtain ⟨r35, hcr35, hM⟩ := ob_use hM
          refine cl_V (As := [.int (a1 &&& 255)]) (rest := []) (w_Writer_this_names_out cI ad o_names r35) [] ⟨hx, hb, hml, hown, hts⟩ (c_Writer_digits l D cI sd ad r34 (a1 &&& 255) r35 hcr35) (cwV2 hts q948 mvX5_digits rfl rfl ⟨(Nat.le_of_ble_eq_true rfl), (Nat.le_of_ble_eq_true rfl)⟩) hK hE hA hP hD hS 0 (T := TX5) (N := 3) (ci := 5) rfl rfl [0, 6, 7] rfl (by decide) rfl rfl rfl rfl rfl rfl hl.1 (Nat.le_of_ble_eq_true rfl) dX5_place_77 ⟨Nat.zero_le _, Nat.zero_le _⟩ (fun H locs hP hD hS => ?_)
          cases hM
          exact rt_v hx hb hr hlk hP hD hS rfl dX5_place_80
        · replace hM := if_f c33 hM
          refine lv_bipush (v := 88) hx hb dX5_place_61 (by decide) ?_
          refine lv_goto (tgt := 68) hx hb dX5_place_63 (by decide) ?_
          obtain ⟨r36, hcr36, hM⟩ := ob_use hM
          refine cl_V (As := [.int 88]) (rest := []) (w_Writer_this_names_out cI ad o_names r36) [] ⟨hx, hb, hml, hown, hts⟩ (c_Bytes_put l D cI sd (ad 3) (ad 4) 16384 r32 88 r36 hcr36) (cwV2 hts q886 mvX0_put rfl rfl ⟨(Nat.le_of_ble_eq_true rfl), (Nat.le_of_ble_eq_true rfl)⟩) hK hE hA hP hD hS 6 (T := TX0) (N := 2) (ci := 0) rfl rfl [6, 7] rfl (by decide) rfl rfl rfl rfl rfl rfl hl.1 (Nat.le_of_ble_eq_true rfl) dX5_place_68 ⟨Nat.zero_le _, Nat.zero_le _⟩ (fun H locs hP hD hS => ?_)
          refine lv_aload_n hx hb dX5_place_71 rfl (lv_at hl 2 rfl) ?_
          refine lv_iload_n hx hb dX5_place_72 rfl (lv_at hl 3 rfl) ?_
          refine lv_sipush (v := 255) hx hb dX5_place_73 (by decide) ?_
          refine lv_iand hx hb dX5_place_76 ?_
          obtain ⟨r37, hcr37, hM⟩ := ob_use hM
          refine cl_V (As := [.int (a1 &&& 255)]) (rest := []) (w_Writer_this_names_out cI ad o_names r37) [] ⟨hx, hb, hml, hown, hts⟩ (c_Writer_digits l D cI sd ad r36 (a1 &&& 255) r37 hcr37) (cwV2 hts q948 mvX5_digits rfl rfl ⟨(Nat.le_of_ble_eq_true rfl), (Nat.le_of_ble_eq_true rfl)⟩) hK hE hA hP hD hS 0 (T := TX5) (N := 3) (ci := 5) rfl rfl [0, 6, 7] rfl (by decide) rfl rfl rfl rfl rfl rfl hl.1 (Nat.le_of_ble_eq_true rfl) dX5_place_77 ⟨Nat.zero_le _, Nat.zero_le _⟩ (fun H locs hP hD hS => ?_)
          cases hM
          exact rt_v hx hb hr hlk hP hD hS rfl dX5_place_80
    · replace hM := if_t c24 hM
      refine lv_bipush (v := 73) hx hb dX5_place_32 (by decide) ?_
      refine lv_goto (tgt := 49) hx hb dX5_place_34 (by decide) ?_
      obtain ⟨r38, hcr38, hM⟩ := ob_use hM
      refine cl_V (As := [.int 73]) (rest := []) (w_Writer_this_names_out cI ad o_names r38) [] ⟨hx, hb, hml, hown, hts⟩ (c_Bytes_put l D cI sd (ad 3) (ad 4) 16384 r23 73 r38 hcr38) (cwV2 hts q886 mvX0_put rfl rfl ⟨(Nat.le_of_ble_eq_true rfl), (Nat.le_of_ble_eq_true rfl)⟩) hK hE hA hP hD hS 6 (T := TX0) (N := 2) (ci := 0) rfl rfl [6, 7] rfl (by decide) rfl rfl rfl rfl rfl rfl hl.1 (Nat.le_of_ble_eq_true rfl) dX5_place_49 ⟨Nat.zero_le _, Nat.zero_le _⟩ (fun H locs hP hD hS => ?_)
      refine lv_aload_n hx hb dX5_place_52 rfl (lv_at hl 2 rfl) ?_
      refine va_get (D := D) (ci := 5) (v := .ref (ad 3)) (C := RX5) (T := TX5) (N := 3) hx hb hts layX5 hown hK hP 0 rfl rfl 2 (by decide) (hts _ (inA q444)) (fun _ h9 => h9) rfl dX5_place_53 ?_
      refine lv_iload_n hx hb dX5_place_56 rfl (lv_at hl 1 rfl) ?_
      refine lv_iconst (v := 3) hx hb dX5_place_57 (by decide) ?_
      refine lv_icmp_ge (tgt := 66) hx hb dX5_place_58 (by decide) (fun c39 => ?_) (fun c39 => ?_)
      · replace hM := if_t c39 hM
        refine lv_bipush (v := 87) hx hb dX5_place_66 (by decide) ?_
        obtain ⟨r40, hcr40, hM⟩ := ob_use hM
        refine cl_V (As := [.int 87]) (rest := []) (w_Writer_this_names_out cI ad o_names r40) [] ⟨hx, hb, hml, hown, hts⟩ (c_Bytes_put l D cI sd (ad 3) (ad 4) 16384 r38 87 r40 hcr40) (cwV2 hts q886 mvX0_put rfl rfl ⟨(Nat.le_of_ble_eq_true rfl), (Nat.le_of_ble_eq_true rfl)⟩) hK hE hA hP hD hS 6 (T := TX0) (N := 2) (ci := 0) rfl rfl [6, 7] rfl (by decide) rfl rfl rfl rfl rfl rfl hl.1 (Nat.le_of_ble_eq_true rfl) dX5_place_68 ⟨Nat.zero_le _, Nat.zero_le _⟩ (fun H locs hP hD hS => ?_)
        refine lv_aload_n hx hb dX5_place_71 rfl (lv_at hl 2 rfl) ?_
        refine lv_iload_n hx hb dX5_place_72 rfl (lv_at hl 3 rfl) ?_
        refine lv_sipush (v := 255) hx hb dX5_place_73 (by decide) ?_
        refine lv_iand hx hb dX5_place_76 ?_
        obtain ⟨r41, hcr41, hM⟩ := ob_use hM
        refine cl_V (As := [.int (a1 &&& 255)]) (rest := []) (w_Writer_this_names_out cI ad o_names r41) [] ⟨hx, hb, hml, hown, hts⟩ (c_Writer_digits l D cI sd ad r40 (a1 &&& 255) r41 hcr41) (cwV2 hts q948 mvX5_digits rfl rfl ⟨(Nat.le_of_ble_eq_true rfl), (Nat.le_of_ble_eq_true rfl)⟩) hK hE hA hP hD hS 0 (T := TX5) (N := 3) (ci := 5) rfl rfl [0, 6, 7] rfl (by decide) rfl rfl rfl rfl rfl rfl hl.1 (Nat.le_of_ble_eq_true rfl) dX5_place_77 ⟨Nat.zero_le _, Nat.zero_le _⟩ (fun H locs hP hD hS => ?_)
        cases hM
        exact rt_v hx hb hr hlk hP hD hS rfl dX5_place_80
      · replace hM := if_f c39 hM
        refine lv_bipush (v := 88) hx hb dX5_place_61 (by decide) ?_
        refine lv_goto (tgt := 68) hx hb dX5_place_63 (by decide) ?_
        obtain ⟨r42, hcr42, hM⟩ := ob_use hM
        refine cl_V (As := [.int 88]) (rest := []) (w_Writer_this_names_out cI ad o_names r42) [] ⟨hx, hb, hml, hown, hts⟩ (c_Bytes_put l D cI sd (ad 3) (ad 4) 16384 r38 88 r42 hcr42) (cwV2 hts q886 mvX0_put rfl rfl ⟨(Nat.le_of_ble_eq_true rfl), (Nat.le_of_ble_eq_true rfl)⟩) hK hE hA hP hD hS 6 (T := TX0) (N := 2) (ci := 0) rfl rfl [6, 7] rfl (by decide) rfl rfl rfl rfl rfl rfl hl.1 (Nat.le_of_ble_eq_true rfl) dX5_place_68 ⟨Nat.zero_le _, Nat.zero_le _⟩ (fun H locs hP hD hS => ?_)
        refine lv_aload_n hx hb dX5_place_71 rfl (lv_at hl 2 rfl) ?_
        refine lv_iload_n hx hb dX5_place_72 rfl (lv_at hl 3 rfl) ?_
        refine lv_sipush (v := 255) hx hb dX5_place_73 (by decide) ?_
        refine lv_iand hx hb dX5_place_76 ?_
        obtain ⟨r43, hcr43, hM⟩ := ob_use hM
        refine cl_V (As := [.int (a1 &&& 255)]) (rest := []) (w_Writer_this_names_out cI ad o_names r43) [] ⟨hx, hb, hml, hown, hts⟩ (c_Writer_digits l D cI sd ad r42 (a1 &&& 255) r43 hcr43) (cwV2 hts q948 mvX5_digits rfl rfl ⟨(Nat.le_of_ble_eq_true rfl), (Nat.le_of_ble_eq_true rfl)⟩) hK hE hA hP hD hS 0 (T := TX5) (N := 3) (ci := 5) rfl rfl [0, 6, 7] rfl (by decide) rfl rfl rfl rfl rfl rfl hl.1 (Nat.le_of_ble_eq_true rfl) dX5_place_77 ⟨Nat.zero_le _, Nat.zero_le _⟩ (fun H locs hP hD hS => ?_)
        cases hM
        exact rt_v hx hb hr hlk hP hD hS rfl dX5_place_80

set_option maxHeartbeats 4000000 in
set_option maxRecDepth 100000 in
theorem c_Model_simple (l : Launch) (D : va_G) (cI : ClassId) (sd : Nat → Nat) (ad : Nat → Nat) (o_U : S_MU) (o_O : S_MO) (o_E : S_ME) (o_Q : S_MQ) (o_V : S_MV) (o_I : S_MI) (o_C : S_MC) (o_X : S_MX) (o_L : S_ML) (o_N : S_MN) (o_T : S_MT) (res : S_ML × S_MN × S_MT) (hM : f_Model_simple o_C o_X o_L o_N o_T = some res) : Ctr l D cI sd yX8_simple (wsM yX8_simple cX8_simple 1 (Option.none : Option Jvm.ClassFile.FieldType)) { frames := 5, cells := 0, slots := 0, locals := 112 } [.ref (ad 100)] (wM_CXLNT cI ad o_X o_L o_N o_T o_U o_O o_E o_Q o_V o_I o_C) (wM_CXLNT cI ad o_X res.1 res.2.1 res.2.2 o_U o_O o_E o_Q o_V o_I o_C) none := by
  refine Ctr.of (cc := cX8_simple) (maxL := 1) (own := RX8) (by decide +kernel) rfl rfl (Nat.le_of_ble_eq_true rfl) ?_
  intro p e s m below meth c A ls hx hb hr hml hown hts hlk hK hE hA hP hD hS hl
  have hl : lv_has ls 1 [(0, .ref (ad 100))] := hl
  unfold f_Model_simple at hM
  refine lv_aload_n hx hb dX8_simple_0 rfl (lv_at hl 0 rfl) ?_
  refine va_get (D := D) (ci := 8) (v := .int o_L.2.1) (C := RX8) (T := TX8) (N := 48) hx hb hts layX8 hown hK hP 0 rfl rfl 7 (by decide) (hts _ (inA q985)) (fun _ h9 => h9) rfl dX8_simple_1 ?_
  refine lv_bipush (v := 11) hx hb dX8_simple_4 (by decide) ?_
  refine lv_icmp_lt (tgt := 42) hx hb dX8_simple_6 (by decide) (fun c1 => ?_) (fun c1 => ?_)
  · replace hM := if_t c1 hM
    refine lv_aload_n hx hb dX8_simple_42 rfl (lv_at hl 0 rfl) ?_
    obtain ⟨r2, hcr2, hM⟩ := ob_use hM
    refine cl_V (As := []) (rest := []) (wM_CXLNT cI ad o_X r2 o_N o_T o_U o_O o_E o_Q o_V o_I o_C) [] ⟨hx, hb, hml, hown, hts⟩ (c_Model_wrong l D cI sd ad o_C o_X o_N o_T o_U o_O o_E o_Q o_V o_I o_L r2 hcr2) (cwV2 hts q1233 mvX8_wrong rfl rfl ⟨(Nat.le_of_ble_eq_true rfl), (Nat.le_of_ble_eq_true rfl)⟩) hK hE hA hP hD hS 0 (T := TX8) (N := 48) (ci := 8) rfl rfl [0] rfl (by decide) rfl rfl rfl rfl rfl rfl hl.1 (Nat.le_of_ble_eq_true rfl) dX8_simple_43 ⟨Nat.zero_le _, Nat.zero_le _⟩ (fun H locs hP hD hS => ?_)
    cases hM
    exact rt_v hx hb hr hlk hP hD hS rfl dX8_simple_46
  · replace hM := if_f c1 hM
    refine lv_aload_n hx hb dX8_simple_9 rfl (lv_at hl 0 rfl) ?_
    refine va_get (D := D) (ci := 8) (v := .int o_L.2.1) (C := RX8) (T := TX8) (N := 48) hx hb hts layX8 hown hK hP 0 rfl rfl 7 (by decide) (hts _ (inA q985)) (fun _ h9 => h9) rfl dX8_simple_10 ?_
    refine lv_bipush (v := 13) hx hb dX8_simple_13 (by decide) ?_
    refine lv_icmp_gt (tgt := 42) hx hb dX8_simple_15 (by decide) (fun c3 => ?_) (fun c3 => ?_)
    · replace hM := if_t c3 hM
      refine lv_aload_n hx hb dX8_simple_42 rfl (lv_at hl 0 rfl) ?_
      obtain ⟨r4, hcr4, hM⟩ := ob_use hM
      refine cl_V (As := []) (rest := []) (wM_CXLNT cI ad o_X r4 o_N o_T o_U o_O o_E o_Q o_V o_I o_C) [] ⟨hx, hb, hml, hown, hts⟩ (c_Model_wrong l D cI sd ad o_C o_X o_N o_T o_U o_O o_E o_Q o_V o_I o_L r4 hcr4) (cwV2 hts q1233 mvX8_wrong rfl rfl ⟨(Nat.le_of_ble_eq_true rfl), (Nat.le_of_ble_eq_true rfl)⟩) hK hE hA hP hD hS 0 (T := TX8) (N := 48) (ci := 8) rfl rfl [0] rfl (by decide) rfl rfl rfl rfl rfl rfl hl.1 (Nat.le_of_ble_eq_true rfl) dX8_simple_43 ⟨Nat.zero_le _, Nat.zero_le _⟩ (fun H locs hP hD hS => ?_)
      cases hM
      exact rt_v hx hb hr hlk hP hD hS rfl dX8_simple_46
    · replace hM := if_f c3 hM
      refine lv_aload_n hx hb dX8_simple_18 rfl (lv_at hl 0 rfl) ?_
      refine lv_bipush (v := 8) hx hb dX8_simple_19 (by decide) ?_
      refine lv_aload_n hx hb dX8_simple_21 rfl (lv_at hl 0 rfl) ?_
      refine va_get (D := D) (ci := 8) (v := .int o_L.1) (C := RX8) (T := TX8) (N := 48) hx hb hts layX8 hown hK hP 0 rfl rfl 6 (by decide) (hts _ (inA q984)) (fun _ h9 => h9) rfl dX8_simple_22 ?_
      refine lv_aload_n hx hb dX8_simple_25 rfl (lv_at hl 0 rfl) ?_
      refine va_get (D := D) (ci := 8) (v := .int o_L.2.1) (C := RX8) (T := TX8) (N := 48) hx hb hts layX8 hown hK hP 0 rfl rfl 7 (by decide) (hts _ (inA q985)) (fun _ h9 => h9) rfl dX8_simple_26 ?_
      refine lv_bipush (v := 11) hx hb dX8_simple_29 (by decide) ?_
      refine lv_isub hx hb dX8_simple_31 ?_
      obtain ⟨r5, hcr5, hM⟩ := ob_use hM
      refine cl_V (As := [.int 8, .int o_L.1, .int (o_L.2.1 - 11)]) (rest := []) (wM_CXLNT cI ad o_X o_L o_N r5 o_U o_O o_E o_Q o_V o_I o_C) [] ⟨hx, hb, hml, hown, hts⟩ (c_Model_leaf l D cI sd ad o_C o_X o_L o_N o_U o_O o_E o_Q o_V o_I o_T 8 o_L.1 (o_L.2.1 - 11) r5 hcr5) (cwV2 hts q1277 mvX8_leaf rfl rfl ⟨(Nat.le_of_ble_eq_true rfl), (Nat.le_of_ble_eq_true rfl)⟩) hK hE hA hP hD hS 0 (T := TX8) (N := 48) (ci := 8) rfl rfl [0, 8, 9, 10, 11, 12, 13, 14] rfl (by decide) (mrgE rfl rfl) rfl rfl rfl rfl rfl hl.1 (Nat.le_of_ble_eq_true rfl) dX8_simple_32 ⟨Nat.zero_le _, Nat.zero_le _⟩ (fun H locs hP hD hS => ?_)
      refine lv_aload_n hx hb dX8_simple_35 rfl (lv_at hl 0 rfl) ?_
      obtain ⟨r6, hcr6, hM⟩ := ob_use hM
      refine cl_V (As := []) (rest := []) (wM_CXLNT cI ad o_X r6.1 r6.2 r5 o_U o_O o_E o_Q o_V o_I o_C) [] ⟨hx, hb, hml, hown, hts⟩ (c_Model_step l D cI sd ad r5 o_U o_O o_E o_Q o_V o_I o_C o_X o_L o_N r6 hcr6) (cwV2 hts q1151 mvX8_step rfl rfl ⟨(Nat.le_of_ble_eq_true rfl), (Nat.le_of_ble_eq_true rfl)⟩) hK hE hA hP hD hS 0 (T := TX8) (N := 48) (ci := 8) rfl rfl [0, 1, 2, 3, 4, 5, 6, 7] rfl (by decide) (mrgE rfl rfl) rfl rfl rfl rfl rfl hl.1 (Nat.le_of_ble_eq_true rfl) dX8_simple_36 ⟨Nat.zero_le _, Nat.zero_le _⟩ (fun H locs hP hD hS => ?_)
      refine lv_goto (tgt := 46) hx hb dX8_simple_39 (by decide) ?_
      cases hM
      exact rt_v hx hb hr hlk hP hD hS rfl dX8_simple_46

set_option maxHeartbeats 4000000 in
set_option maxRecDepth 100000 in
theorem c_Model_type (l : Launch) (D : va_G) (cI : ClassId) (sd : Nat → Nat) (ad : Nat → Nat) (o_O : S_MO) (o_E : S_ME) (o_Q : S_MQ) (o_V : S_MV) (o_I : S_MI) (o_C : S_MC) (o_X : S_MX) (o_L : S_ML) (o_N : S_MN) (o_T : S_MT) (o_U : S_MU) (res : S_ML × S_MN × S_MT × S_MU) (hM : f_Model_type o_C o_X o_L o_N o_T o_U = some res) : Ctr l D cI sd yX8_type (wsM yX8_type cX8_type 1 (Option.none : Option Jvm.ClassFile.FieldType)) { frames := 6, cells := 0, slots := 0, locals := 132 } [.ref (ad 100)] (wM_CXLNTU cI ad o_X o_L o_N o_T o_U o_O o_E o_Q o_V o_I o_C) (wM_CXLNTU cI ad o_X res.1 res.2.1 res.2.2.1 res.2.2.2 o_O o_E o_Q o_V o_I o_C) none := by
  refine Ctr.of (cc := cX8_type) (maxL := 1) (own := RX8) (by decide +kernel) rfl rfl (Nat.le_of_ble_eq_true rfl) ?_
  intro p e s m below meth c A ls hx hb hr hml hown hts hlk hK hE hA hP hD hS hl
  have hl : lv_has ls 1 [(0, .ref (ad 100))] := hl
  unfold f_Model_type at hM
  refine lv_aload_n hx hb dX8_type_0 rfl (lv_at hl 0 rfl) ?_
  refine va_get (D := D) (ci := 8) (v := .int o_L.2.1) (C := RX8) (T := TX8) (N := 48) hx hb hts layX8 hown hK hP 0 rfl rfl 7 (by decide) (hts _ (inA q985)) (fun _ h9 => h9) rfl dX8_type_1 ?_
  refine lv_bipush (v := 14) hx hb dX8_type_4 (by decide) ?_
  refine lv_icmp_ne (tgt := 51) hx hb dX8_type_6 (by decide) (fun c1 => ?_) (fun c1 => ?_)
  · replace hM := if_f c1 hM
    refine lv_aload_n hx hb dX8_type_51 rfl (lv_at hl 0 rfl) ?_
    refine va_get (D := D) (ci := 8) (v := .int o_L.2.1) (C := RX8) (T := TX8) (N := 48) hx hb hts layX8 hown hK hP 0 rfl rfl 7 (by decide) (hts _ (inA q985)) (fun _ h9 => h9) rfl dX8_type_52 ?_
    refine lv_bipush (v := 80) hx hb dX8_type_55 (by decide) ?_
    refine lv_icmp_ne (tgt := 81) hx hb dX8_type_57 (by decide) (fun c2 => ?_) (fun c2 => ?_)
    · replace hM := if_f c2 hM
      refine lv_aload_n hx hb dX8_type_81 rfl (lv_at hl 0 rfl) ?_
      obtain ⟨r3, hcr3, hM⟩ := ob_use hM
      refine cl_V (As := []) (rest := []) (wM_CXLNTU cI ad o_X r3.1 r3.2.1 r3.2.2 o_U o_O o_E o_Q o_V o_I o_C) [] ⟨hx, hb, hml, hown, hts⟩ (c_Model_simple l D cI sd ad o_U o_O o_E o_Q o_V o_I o_C o_X o_L o_N o_T r3 hcr3) (cwV2 hts q1273 mvX8_simple rfl rfl ⟨(Nat.le_of_ble_eq_true rfl), (Nat.le_of_ble_eq_true rfl)⟩) hK hE hA hP hD hS 0 (T := TX8) (N := 48) (ci := 8) rfl rfl [0, 1, 2, 3, 4, 5, 6, 7, 8, 9, 10, 11, 12, 13, 14] rfl (by decide) (mrgE rfl rfl) rfl rfl rfl rfl rfl hl.1 (Nat.le_of_ble_eq_true rfl) dX8_type_82 ⟨Nat.zero_le _, Nat.zero_le _⟩ (fun H locs hP hD hS => ?_)
      cases hM
      exact rt_v hx hb hr hlk hP hD hS rfl dX8_type_85
    · replace hM := if_t c2 hM
      refine lv_aload_n hx hb dX8_type_60 rfl (lv_at hl 0 rfl) ?_
      refine lv_bipush (v := 10) hx hb dX8_type_61 (by decide) ?_
      refine lv_aload_n hx hb dX8_type_63 rfl (lv_at hl 0 rfl) ?_
      refine va_get (D := D) (ci := 8) (v := .int o_L.1) (C := RX8) (T := TX8) (N := 48) hx hb hts layX8 hown hK hP 0 rfl rfl 6 (by decide) (hts _ (inA q984)) (fun _ h9 => h9) rfl dX8_type_64 ?_
      refine lv_aload_n hx hb dX8_type_67 rfl (lv_at hl 0 rfl) ?_
      refine va_get (D := D) (ci := 8) (v := .int o_L.2.2.1) (C := RX8) (T := TX8) (N := 48) hx hb hts layX8 hown hK hP 0 rfl rfl 8 (by decide) (hts _ (inA q986)) (fun _ h9 => h9) rfl dX8_type_68 ?_
      obtain ⟨r4, hcr4, hM⟩ := ob_use hM
      refine cl_V (As := [.int 10, .int o_L.1, .int o_L.2.2.1]) (rest := []) (wM_CXLNTU cI ad o_X o_L o_N r4 o_U o_O o_E o_Q o_V o_I o_C) [] ⟨hx, hb, hml, hown, hts⟩ (c_Model_leaf l D cI sd ad o_C o_X o_L o_N o_U o_O o_E o_Q o_V o_I o_T 10 o_L.1 o_L.2.2.1 r4 hcr4) (cwV2 hts q1277 mvX8_leaf rfl rfl ⟨(Nat.le_of_ble_eq_true rfl), (Nat.le_of_ble_eq_true rfl)⟩) hK hE hA hP hD hS 0 (T := TX8) (N := 48) (ci := 8) rfl rfl [0, 8, 9, 10, 11, 12, 13, 14] rfl (by decide) (mrgE rfl rfl) rfl rfl rfl rfl rfl hl.1 (Nat.le_of_ble_eq_true rfl) dX8_type_71 ⟨Nat.zero_le _, Nat.zero_le _⟩ (fun H locs hP hD hS => ?_)
      refine lv_aload_n hx hb dX8_type_74 rfl (lv_at hl 0 rfl) ?_
      obtain ⟨r5, hcr5, hM⟩ := ob_use hM
      refine cl_V (As := []) (rest := []) (wM_CXLNTU cI ad o_X r5.1 r5.2 r4 o_U o_O o_E o_Q o_V o_I o_C) [] ⟨hx, hb, hml, hown, hts⟩ (c_Model_step l D cI sd ad r4 o_U o_O o_E o_Q o_V o_I o_C o_X o_L o_N r5 hcr5) (cwV2 hts q1151 mvX8_step rfl rfl ⟨(Nat.le_of_ble_eq_true rfl), (Nat.le_of_ble_eq_true rfl)⟩) hK hE hA hP hD hS 0 (T := TX8) (N := 48) (ci := 8) rfl rfl [0, 1, 2, 3, 4, 5, 6, 7] rfl (by decide) (mrgE rfl rfl) rfl rfl rfl rfl rfl hl.1 (Nat.le_of_ble_eq_true rfl) dX8_type_75 ⟨Nat.zero_le _, Nat.zero_le _⟩ (fun H locs hP hD hS => ?_)
      refine lv_goto (tgt := 85) hx hb dX8_type_78 (by decide) ?_
      cases hM
      exact rt_v hx hb hr hlk hP hD hS rfl dX8_type_85
  · replace hM := if_t c1 hM
    refine lv_aload_n hx hb dX8_type_9 rfl (lv_at hl 0 rfl) ?_
    refine lv_bipush (v := 9) hx hb dX8_type_10 (by decide) ?_
    refine lv_aload_n hx hb dX8_type_12 rfl (lv_at hl 0 rfl) ?_
    refine va_get (D := D) (ci := 8) (v := .int o_L.1) (C := RX8) (T := TX8) (N := 48) hx hb hts layX8 hown hK hP 0 rfl rfl 6 (by decide) (hts _ (inA q984)) (fun _ h9 => h9) rfl dX8_type_13 ?_
    refine lv_iconst (v := 0) hx hb dX8_type_16 (by decide) ?_
    obtain ⟨r6, hcr6, hM⟩ := ob_use hM
    refine cl_V (As := [.int 9, .int o_L.1, .int 0]) (rest := []) (wM_CXLNTU cI ad o_X o_L o_N r6 o_U o_O o_E o_Q o_V o_I o_C) [] ⟨hx, hb, hml, hown, hts⟩ (c_Model_down l D cI sd ad o_C o_X o_L o_N o_U o_O o_E o_Q o_V o_I o_T 9 o_L.1 0 r6 hcr6) (cwV2 hts q1245 mvX8_down rfl rfl ⟨(Nat.le_of_ble_eq_true rfl), (Nat.le_of_ble_eq_true rfl)⟩) hK hE hA hP hD hS 0 (T := TX8) (N := 48) (ci := 8) rfl rfl [0, 8, 9, 10, 11, 12, 13, 14] rfl (by decide) (mrgE rfl rfl) rfl rfl rfl rfl rfl hl.1 (Nat.le_of_ble_eq_true rfl) dX8_type_17 ⟨Nat.zero_le _, Nat.zero_le _⟩ (fun H locs hP hD hS => ?_)
    refine lv_aload_n hx hb dX8_type_20 rfl (lv_at hl 0 rfl) ?_
    obtain ⟨r7, hcr7, hM⟩ := ob_use hM
    refine cl_V (As := []) (rest := []) (wM_CXLNTU cI ad o_X r7.1 r7.2 r6 o_U o_O o_E o_Q o_V o_I o_C) [] ⟨hx, hb, hml, hown, hts⟩ (c_Model_step l D cI sd ad r6 o_U o_O o_E o_Q o_V o_I o_C o_X o_L o_N r7 hcr7) (cwV2 hts q1151 mvX8_step rfl rfl ⟨(Nat.le_of_ble_eq_true rfl), (Nat.le_of_ble_eq_true rfl)⟩) hK hE hA hP hD hS 0 (T := TX8) (N := 48) (ci := 8) rfl rfl [0, 1, 2, 3, 4, 5, 6, 7] rfl (by decide) (mrgE rfl rfl) rfl rfl rfl rfl rfl hl.1 (Nat.le_of_ble_eq_true rfl) dX8_type_21 ⟨Nat.zero_le _, Nat.zero_le _⟩ (fun H locs hP hD hS => ?_)
    refine lv_aload_n hx hb dX8_type_24 rfl (lv_at hl 0 rfl) ?_
    refine lv_bipush (v := 101) hx hb dX8_type_25 (by decide) ?_
    refine lv_bipush (v := 104) hx hb dX8_type_27 (by decide) ?_
    refine lv_bipush (v := 15) hx hb dX8_type_29 (by decide) ?_
    refine lv_bipush (v := 58) hx hb dX8_type_31 (by decide) ?_
    obtain ⟨r8, hcr8, hM⟩ := ob_use hM
    refine cl_V (As := [.int 101, .int 104, .int 15, .int 58]) (rest := []) (wM_CXLNTU cI ad o_X r7.1 r7.2 r6 r8 o_O o_E o_Q o_V o_I o_C) [] ⟨hx, hb, hml, hown, hts⟩ (c_Model_push4 l D cI sd ad o_C o_X r7.1 r7.2 r6 o_O o_E o_Q o_V o_I o_U 101 104 15 58 r8 hcr8) (cwV2 hts q1253 mvX8_push4 rfl rfl ⟨(Nat.le_of_ble_eq_true rfl), (Nat.le_of_ble_eq_true rfl)⟩) hK hE hA hP hD hS 0 (T := TX8) (N := 48) (ci := 8) rfl rfl [0, 15] rfl (by decide) rfl rfl rfl rfl rfl rfl hl.1 (Nat.le_of_ble_eq_true rfl) dX8_type_33 ⟨Nat.zero_le _, Nat.zero_le _⟩ (fun H locs hP hD hS => ?_)
    refine lv_aload_n hx hb dX8_type_36 rfl (lv_at hl 0 rfl) ?_
    refine lv_bipush (v := 113) hx hb dX8_type_37 (by decide) ?_
    refine lv_bipush (v := 51) hx hb dX8_type_39 (by decide) ?_
    refine lv_bipush (v := 113) hx hb dX8_type_41 (by decide) ?_
    refine lv_bipush (v := 57) hx hb dX8_type_43 (by decide) ?_
    obtain ⟨r9, hcr9, hM⟩ := ob_use hM
    refine cl_V (As := [.int 113, .int 51, .int 113, .int 57]) (rest := []) (wM_CXLNTU cI ad o_X r7.1 r7.2 r6 r9 o_O o_E o_Q o_V o_I o_C) [] ⟨hx, hb, hml, hown, hts⟩ (c_Model_push4 l D cI sd ad o_C o_X r7.1 r7.2 r6 o_O o_E o_Q o_V o_I r8 113 51 113 57 r9 hcr9) (cwV2 hts q1253 mvX8_push4 rfl rfl ⟨(Nat.le_of_ble_eq_true rfl), (Nat.le_of_ble_eq_true rfl)⟩) hK hE hA hP hD hS 0 (T := TX8) (N := 48) (ci := 8) rfl rfl [0, 15] rfl (by decide) rfl rfl rfl rfl rfl rfl hl.1 (Nat.le_of_ble_eq_true rfl) dX8_type_45 ⟨Nat.zero_le _, Nat.zero_le _⟩ (fun H locs hP hD hS => ?_)
    refine lv_goto (tgt := 85) hx hb dX8_type_48 (by decide) ?_
    cases hM
    exact rt_v hx hb hr hlk hP hD hS rfl dX8_type_85

set_option maxHeartbeats 4000000 in
set_option maxRecDepth 100000 in
theorem c_Model_constant (l : Launch) (D : va_G) (cI : ClassId) (sd : Nat → Nat) (ad : Nat → Nat) (o_E : S_ME) (o_Q : S_MQ) (o_V : S_MV) (o_I : S_MI) (o_C : S_MC) (o_X : S_MX) (o_L : S_ML) (o_N : S_MN) (o_T : S_MT) (o_U : S_MU) (o_O : S_MO) (res : S_ML × S_MN × S_MT × S_MU × S_MO) (hM : f_Model_constant o_C o_X o_L o_N o_T o_U o_O = some res) : Ctr l D cI sd yX8_constant (wsM yX8_constant cX8_constant 1 (Option.none : Option Jvm.ClassFile.FieldType)) { frames := 5, cells := 0, slots := 0, locals := 112 } [.ref (ad 100)] (wM_CXLNTUO cI ad o_X o_L o_N o_T o_U o_O o_E o_Q o_V o_I o_C) (wM_CXLNTUO cI ad o_X res.1 res.2.1 res.2.2.1 res.2.2.2.1 res.2.2.2.2 o_E o_Q o_V o_I o_C) none := by
  refine Ctr.of (cc := cX8_constant) (maxL := 1) (own := RX8) (by decide +kernel) rfl rfl (Nat.le_of_ble_eq_true rfl) ?_
  intro p e s m below meth c A ls hx hb hr hml hown hts hlk hK hE hA hP hD hS hl
  have hl : lv_has ls 1 [(0, .ref (ad 100))] := hl
  unfold f_Model_constant at hM
  refine lv_aload_n hx hb dX8_constant_0 rfl (lv_at hl 0 rfl) ?_
  refine va_get (D := D) (ci := 8) (v := .int o_L.2.1) (C := RX8) (T := TX8) (N := 48) hx hb hts layX8 hown hK hP 0 rfl rfl 7 (by decide) (hts _ (inA q985)) (fun _ h9 => h9) rfl dX8_constant_1 ?_
  refine lv_bipush (v := 64) hx hb dX8_constant_4 (by decide) ?_
  refine lv_icmp_ne (tgt := 30) hx hb dX8_constant_6 (by decide) (fun c1 => ?_) (fun c1 => ?_)
  · replace hM := if_f c1 hM
    refine lv_aload_n hx hb dX8_constant_30 rfl (lv_at hl 0 rfl) ?_
    refine va_get (D := D) (ci := 8) (v := .int o_L.2.1) (C := RX8) (T := TX8) (N := 48) hx hb hts layX8 hown hK hP 0 rfl rfl 7 (by decide) (hts _ (inA q985)) (fun _ h9 => h9) rfl dX8_constant_31 ?_
    refine lv_bipush (v := 81) hx hb dX8_constant_34 (by decide) ?_
    refine lv_icmp_ne (tgt := 60) hx hb dX8_constant_36 (by decide) (fun c2 => ?_) (fun c2 => ?_)
    · replace hM := if_f c2 hM
      refine lv_aload_n hx hb dX8_constant_60 rfl (lv_at hl 0 rfl) ?_
      refine va_get (D := D) (ci := 8) (v := .int o_L.2.1) (C := RX8) (T := TX8) (N := 48) hx hb hts layX8 hown hK hP 0 rfl rfl 7 (by decide) (hts _ (inA q985)) (fun _ h9 => h9) rfl dX8_constant_61 ?_
      refine lv_bipush (v := 35) hx hb dX8_constant_64 (by decide) ?_
      refine lv_icmp_eq (tgt := 78) hx hb dX8_constant_66 (by decide) (fun c3 => ?_) (fun c3 => ?_)
      · replace hM := if_t c3 hM
        refine lv_aload_n hx hb dX8_constant_78 rfl (lv_at hl 0 rfl) ?_
        refine lv_bipush (v := 31) hx hb dX8_constant_79 (by decide) ?_
        refine lv_aload_n hx hb dX8_constant_81 rfl (lv_at hl 0 rfl) ?_
        refine va_get (D := D) (ci := 8) (v := .int o_L.1) (C := RX8) (T := TX8) (N := 48) hx hb hts layX8 hown hK hP 0 rfl rfl 6 (by decide) (hts _ (inA q984)) (fun _ h9 => h9) rfl dX8_constant_82 ?_
        refine lv_aload_n hx hb dX8_constant_85 rfl (lv_at hl 0 rfl) ?_
        refine va_get (D := D) (ci := 8) (v := .int o_L.2.1) (C := RX8) (T := TX8) (N := 48) hx hb hts layX8 hown hK hP 0 rfl rfl 7 (by decide) (hts _ (inA q985)) (fun _ h9 => h9) rfl dX8_constant_86 ?_
        refine lv_bipush (v := 35) hx hb dX8_constant_89 (by decide) ?_
        refine lv_icmp_ne (tgt := 98) hx hb dX8_constant_91 (by decide) (fun c4 => ?_) (fun c4 => ?_)
        · replace hM := if_f c4 hM
          refine lv_iconst (v := 0) hx hb dX8_constant_98 (by decide) ?_
          obtain ⟨r5, hcr5, hM⟩ := ob_use hM
          refine cl_V (As := [.int 31, .int o_L.1, .int 0]) (rest := []) (wM_CXLNTUO cI ad o_X o_L o_N r5 o_U o_O o_E o_Q o_V o_I o_C) [] ⟨hx, hb, hml, hown, hts⟩ (c_Model_leaf l D cI sd ad o_C o_X o_L o_N o_U o_O o_E o_Q o_V o_I o_T 31 o_L.1 0 r5 hcr5) (cwV2 hts q1277 mvX8_leaf rfl rfl ⟨(Nat.le_of_ble_eq_true rfl), (Nat.le_of_ble_eq_true rfl)⟩) hK hE hA hP hD hS 0 (T := TX8) (N := 48) (ci := 8) rfl rfl [0, 8, 9, 10, 11, 12, 13, 14] rfl (by decide) (mrgE rfl rfl) rfl rfl rfl rfl rfl hl.1 (Nat.le_of_ble_eq_true rfl) dX8_constant_99 ⟨Nat.zero_le _, Nat.zero_le _⟩ (fun H locs hP hD hS => ?_)
          refine lv_aload_n hx hb dX8_constant_102 rfl (lv_at hl 0 rfl) ?_
          obtain ⟨r6, hcr6, hM⟩ := ob_use hM
          refine cl_V (As := []) (rest := []) (wM_CXLNTUO cI ad o_X r6.1 r6.2 r5 o_U o_O o_E o_Q o_V o_I o_C) [] ⟨hx, hb, hml, hown, hts⟩ (c_Model_step l D cI sd ad r5 o_U o_O o_E o_Q o_V o_I o_C o_X o_L o_N r6 hcr6) (cwV2 hts q1151 mvX8_step rfl rfl ⟨(Nat.le_of_ble_eq_true rfl), (Nat.le_of_ble_eq_true rfl)⟩) hK hE hA hP hD hS 0 (T := TX8) (N := 48) (ci := 8) rfl rfl [0, 1, 2, 3, 4, 5, 6, 7] rfl (by decide) (mrgE rfl rfl) rfl rfl rfl rfl rfl hl.1 (Nat.le_of_ble_eq_true rfl) dX8_constant_103 ⟨Nat.zero_le _, Nat.zero_le _⟩ (fun H locs hP hD hS => ?_)
          refine lv_goto (tgt := 113) hx hb dX8_constant_106 (by decide) ?_
          cases hM
          exact rt_v hx hb hr hlk hP hD hS rfl dX8_constant_113
        · replace hM := if_t c4 hM
          refine lv_iconst (v := 1) hx hb dX8_constant_94 (by decide) ?_
          refine lv_goto (tgt := 99) hx hb dX8_constant_95 (by decide) ?_
          obtain ⟨r7, hcr7, hM⟩ := ob_use hM
          refine cl_V (As := [.int 31, .int o_L.1, .int 1]) (rest := []) (wM_CXLNTUO cI ad o_X o_L o_N r7 o_U o_O o_E o_Q o_V o_I o_C) [] ⟨hx, hb, hml, hown, hts⟩ (c_Model_leaf l D cI sd ad o_C o_X o_L o_N o_U o_O o_E o_Q o_V o_I o_T 31 o_L.1 1 r7 hcr7) (cwV2 hts q1277 mvX8_leaf rfl rfl ⟨(Nat.le_of_ble_eq_true rfl), (Nat.le_of_ble_eq_true rfl)⟩) hK hE hA hP hD hS 0 (T := TX8) (N := 48) (ci := 8) rfl rfl [0, 8, 9, 10, 11, 12, 13, 14] rfl (by decide) (mrgE rfl rfl) rfl rfl rfl rfl rfl hl.1 (Nat.le_of_ble_eq_true rfl) dX8_constant_99 ⟨Nat.zero_le _, Nat.zero_le _⟩ (fun H locs hP hD hS => ?_)
          refine lv_aload_n hx hb dX8_constant_102 rfl (lv_at hl 0 rfl) ?_
          obtain ⟨r8, hcr8, hM⟩ := ob_use hM
          refine cl_V (As := []) (rest := []) (wM_CXLNTUO cI ad o_X r8.1 r8.2 r7 o_U o_O o_E o_Q o_V o_I o_C) [] ⟨hx, hb, hml, hown, hts⟩ (c_Model_step l D cI sd ad r7 o_U o_O o_E o_Q o_V o_I o_C o_X o_L o_N r8 hcr8) (cwV2 hts q1151 mvX8_step rfl rfl ⟨(Nat.le_of_ble_eq_true rfl), (Nat.le_of_ble_eq_true rfl)⟩) hK hE hA hP hD hS 0 (T := TX8) (N := 48) (ci := 8) rfl rfl [0, 1, 2, 3, 4, 5, 6, 7] rfl (by decide) (mrgE rfl rfl) rfl rfl rfl rfl rfl hl.1 (Nat.le_of_ble_eq_true rfl) dX8_constant_103 ⟨Nat.zero_le _, Nat.zero_le _⟩ (fun H locs hP hD hS => ?_)
          refine lv_goto (tgt := 113) hx hb dX8_constant_106 (by decide) ?_
          cases hM
          exact rt_v hx hb hr hlk hP hD hS rfl dX8_constant_113
      · replace hM := if_f c3 hM
        refine lv_aload_n hx hb dX8_constant_69 rfl (lv_at hl 0 rfl) ?_
        refine va_get (D := D) (ci := 8) (v := .int o_L.2.1) (C := RX8) (T := TX8) (N := 48) hx hb hts layX8 hown hK hP 0 rfl rfl 7 (by decide) (hts _ (inA q985)) (fun _ h9 => h9) rfl dX8_constant_70 ?_
        refine lv_bipush (v := 36) hx hb dX8_constant_73 (by decide) ?_
        refine lv_icmp_ne (tgt := 109) hx hb dX8_constant_75 (by decide) (fun c9 => ?_) (fun c9 => ?_)
        · replace hM := if_f c9 hM
          refine lv_aload_n hx hb dX8_constant_109 rfl (lv_at hl 0 rfl) ?_
          obtain ⟨r10, hcr10, hM⟩ := ob_use hM
          refine cl_V (As := []) (rest := []) (wM_CXLNTUO cI ad o_X r10 o_N o_T o_U o_O o_E o_Q o_V o_I o_C) [] ⟨hx, hb, hml, hown, hts⟩ (c_Model_wrong l D cI sd ad o_C o_X o_N o_T o_U o_O o_E o_Q o_V o_I o_L r10 hcr10) (cwV2 hts q1233 mvX8_wrong rfl rfl ⟨(Nat.le_of_ble_eq_true rfl), (Nat.le_of_ble_eq_true rfl)⟩) hK hE hA hP hD hS 0 (T := TX8) (N := 48) (ci := 8) rfl rfl [0] rfl (by decide) rfl rfl rfl rfl rfl rfl hl.1 (Nat.le_of_ble_eq_true rfl) dX8_constant_110 ⟨Nat.zero_le _, Nat.zero_le _⟩ (fun H locs hP hD hS => ?_)
          cases hM
          exact rt_v hx hb hr hlk hP hD hS rfl dX8_constant_113
        · replace hM := if_t c9 hM
          refine lv_aload_n hx hb dX8_constant_78 rfl (lv_at hl 0 rfl) ?_
          refine lv_bipush (v := 31) hx hb dX8_constant_79 (by decide) ?_
          refine lv_aload_n hx hb dX8_constant_81 rfl (lv_at hl 0 rfl) ?_
          refine va_get (D := D) (ci := 8) (v := .int o_L.1) (C := RX8) (T := TX8) (N := 48) hx hb hts layX8 hown hK hP 0 rfl rfl 6 (by decide) (hts _ (inA q984)) (fun _ h9 => h9) rfl dX8_constant_82 ?_
          refine lv_aload_n hx hb dX8_constant_85 rfl (lv_at hl 0 rfl) ?_
          refine va_get (D := D) (ci := 8) (v := .int o_L.2.1) (C := RX8) (T := TX8) (N := 48) hx hb hts layX8 hown hK hP 0 rfl rfl 7 (by decide) (hts _ (inA q985)) (fun _ h9 => h9) rfl dX8_constant_86 ?_
          refine lv_bipush (v := 35) hx hb dX8_constant_89 (by decide) ?_
          refine lv_icmp_ne (tgt := 98) hx hb dX8_constant_91 (by decide) (fun c11 => ?_) (fun c11 => ?_)
          · replace hM := if_f c11 hM
            refine lv_iconst (v := 0) hx hb dX8_constant_98 (by decide) ?_
            obtain ⟨r12, hcr12, hM⟩ := ob_use hM
            refine cl_V (As := [.int 31, .int o_L.1, .int 0]) (rest := []) (wM_CXLNTUO cI ad o_X o_L o_N r12 o_U o_O o_E o_Q o_V o_I o_C) [] ⟨hx, hb, hml, hown, hts⟩ (c_Model_leaf l D cI sd ad o_C o_X o_L o_N o_U o_O o_E o_Q o_V o_I o_T 31 o_L.1 0 r12 hcr12) (cwV2 hts q1277 mvX8_leaf rfl rfl ⟨(Nat.le_of_ble_eq_true rfl), (Nat.le_of_ble_eq_true rfl)⟩) hK hE hA hP hD hS 0 (T := TX8) (N := 48) (ci := 8) rfl rfl [0, 8, 9, 10, 11, 12, 13, 14] rfl (by decide) (mrgE rfl rfl) rfl rfl rfl rfl rfl hl.1 (Nat.le_of_ble_eq_true rfl) dX8_constant_99 ⟨Nat.zero_le _, Nat.zero_le _⟩ (fun H locs hP hD hS => ?_)
            refine lv_aload_n hx hb dX8_constant_102 rfl (lv_at hl 0 rfl) ?_
            obtain ⟨r13, hcr13, hM⟩ := ob_use hM
            refine cl_V (As := []) (rest := []) (wM_CXLNTUO cI ad o_X r13.1 r13.2 r12 o_U o_O o_E o_Q o_V o_I o_C) [] ⟨hx, hb, hml, hown, hts⟩ (c_Model_step l D cI sd ad r12 o_U o_O o_E o_Q o_V o_I o_C o_X o_L o_N r13 hcr13) (cwV2 hts q1151 mvX8_step rfl rfl ⟨(Nat.le_of_ble_eq_true rfl), (Nat.le_of_ble_eq_true rfl)⟩) hK hE hA hP hD hS 0 (T := TX8) (N := 48) (ci := 8) rfl rfl [0, 1, 2, 3, 4, 5, 6, 7] rfl (by decide) (mrgE rfl rfl) rfl rfl rfl rfl rfl hl.1 (Nat.le_of_ble_eq_true rfl) dX8_constant_103 ⟨Nat.zero_le _, Nat.zero_le _⟩ (fun H locs hP hD hS => ?_)
            refine lv_goto (tgt := 113) hx hb dX8_constant_106 (by decide) ?_
            cases hM
            exact rt_v hx hb hr hlk hP hD hS rfl dX8_constant_113
          · replace hM := if_t c11 hM
            refine lv_iconst (v := 1) hx hb dX8_constant_94 (by decide) ?_
            refine lv_goto (tgt := 99) hx hb dX8_constant_95 (by decide) ?_
            obtain ⟨r14, hcr14, hM⟩ := ob_use hM
            refine cl_V (As := [.int 31, .int o_L.1, .int 1]) (rest := []) (wM_CXLNTUO cI ad o_X o_L o_N r14 o_U o_O o_E o_Q o_V o_I o_C) [] ⟨hx, hb, hml, hown, hts⟩ (c_Model_leaf l D cI sd ad o_C o_X o_L o_N o_U o_O o_E o_Q o_V o_I o_T 31 o_L.1 1 r14 hcr14) (cwV2 hts q1277 mvX8_leaf rfl rfl ⟨(Nat.le_of_ble_eq_true rfl), (Nat.le_of_ble_eq_true rfl)⟩) hK hE hA hP hD hS 0 (T := TX8) (N := 48) (ci := 8) rfl rfl [0, 8, 9, 10, 11, 12, 13, 14] rfl (by decide) (mrgE rfl rfl) rfl rfl rfl rfl rfl hl.1 (Nat.le_of_ble_eq_true rfl) dX8_constant_99 ⟨Nat.zero_le _, Nat.zero_le _⟩ (fun H locs hP hD hS => ?_)
            refine lv_aload_n hx hb dX8_constant_102 rfl (lv_at hl 0 rfl) ?_
            obtain ⟨r15, hcr15, hM⟩ := ob_use hM
            refine cl_V (As := []) (rest := []) (wM_CXLNTUO cI ad o_X r15.1 r15.2 r14 o_U o_O o_E o_Q o_V o_I o_C) [] ⟨hx, hb, hml, hown, hts⟩ (c_Model_step l D cI sd ad r14 o_U o_O o_E o_Q o_V o_I o_C o_X o_L o_N r15 hcr15) (cwV2 hts q1151 mvX8_step rfl rfl ⟨(Nat.le_of_ble_eq_true rfl), (Nat.le_of_ble_eq_true rfl)⟩) hK hE hA hP hD hS 0 (T := TX8) (N := 48) (ci := 8) rfl rfl [0, 1, 2, 3, 4, 5, 6, 7] rfl (by decide) (mrgE rfl rfl) rfl rfl rfl rfl rfl hl.1 (Nat.le_of_ble_eq_true rfl) dX8_constant_103 ⟨Nat.zero_le _, Nat.zero_le _⟩ (fun H locs hP hD hS => ?_)
            refine lv_goto (tgt := 113) hx hb dX8_constant_106 (by decide) ?_
            cases hM
            exact rt_v hx hb hr hlk hP hD hS rfl dX8_constant_113
    · replace hM := if_t c2 hM
      refine lv_aload_n hx hb dX8_constant_39 rfl (lv_at hl 0 rfl) ?_
      refine lv_bipush (v := 30) hx hb dX8_constant_40 (by decide) ?_
      refine lv_aload_n hx hb dX8_constant_42 rfl (lv_at hl 0 rfl) ?_
      refine va_get (D := D) (ci := 8) (v := .int o_L.1) (C := RX8) (T := TX8) (N := 48) hx hb hts layX8 hown hK hP 0 rfl rfl 6 (by decide) (hts _ (inA q984)) (fun _ h9 => h9) rfl dX8_constant_43 ?_
      refine lv_aload_n hx hb dX8_constant_46 rfl (lv_at hl 0 rfl) ?_
      refine va_get (D := D) (ci := 8) (v := .int o_L.2.2.1) (C := RX8) (T := TX8) (N := 48) hx hb hts layX8 hown hK hP 0 rfl rfl 8 (by decide) (hts _ (inA q986)) (fun _ h9 => h9) rfl dX8_constant_47 ?_
      obtain ⟨r16, hcr16, hM⟩ := ob_use hM
      refine cl_V (As := [.int 30, .int o_L.1, .int o_L.2.2.1]) (rest := []) (wM_CXLNTUO cI ad o_X o_L o_N r16 o_U o_O o_E o_Q o_V o_I o_C) [] ⟨hx, hb, hml, hown, hts⟩ (c_Model_leaf l D cI sd ad o_C o_X o_L o_N o_U o_O o_E o_Q o_V o_I o_T 30 o_L.1 o_L.2.2.1 r16 hcr16) (cwV2 hts q1277 mvX8_leaf rfl rfl ⟨(Nat.le_of_ble_eq_true rfl), (Nat.le_of_ble_eq_true rfl)⟩) hK hE hA hP hD hS 0 (T := TX8) (N := 48) (ci := 8) rfl rfl [0, 8, 9, 10, 11, 12, 13, 14] rfl (by decide) (mrgE rfl rfl) rfl rfl rfl rfl rfl hl.1 (Nat.le_of_ble_eq_true rfl) dX8_constant_50 ⟨Nat.zero_le _, Nat.zero_le _⟩ (fun H locs hP hD hS => ?_)
      refine lv_aload_n hx hb dX8_constant_53 rfl (lv_at hl 0 rfl) ?_
      obtain ⟨r17, hcr17, hM⟩ := ob_use hM
      refine cl_V (As := []) (rest := []) (wM_CXLNTUO cI ad o_X r17.1 r17.2 r16 o_U o_O o_E o_Q o_V o_I o_C) [] ⟨hx, hb, hml, hown, hts⟩ (c_Model_step l D cI sd ad r16 o_U o_O o_E o_Q o_V o_I o_C o_X o_L o_N r17 hcr17) (cwV2 hts q1151 mvX8_step rfl rfl ⟨(Nat.le_of_ble_eq_true rfl), (Nat.le_of_ble_eq_true rfl)⟩) hK hE hA hP hD hS 0 (T := TX8) (N := 48) (ci := 8) rfl rfl [0, 1, 2, 3, 4, 5, 6, 7] rfl (by decide) (mrgE rfl rfl) rfl rfl rfl rfl rfl hl.1 (Nat.le_of_ble_eq_true rfl) dX8_constant_54 ⟨Nat.zero_le _, Nat.zero_le _⟩ (fun H locs hP hD hS => ?_)
      refine lv_goto (tgt := 113) hx hb dX8_constant_57 (by decide) ?_
      cases hM
      exact rt_v hx hb hr hlk hP hD hS rfl dX8_constant_113
  · replace hM := if_t c1 hM
    refine lv_aload_n hx hb dX8_constant_9 rfl (lv_at hl 0 rfl) ?_
    refine lv_aload_n hx hb dX8_constant_10 rfl (lv_at hl 0 rfl) ?_
    refine va_get (D := D) (ci := 8) (v := .int o_L.1) (C := RX8) (T := TX8) (N := 48) hx hb hts layX8 hown hK hP 0 rfl rfl 6 (by decide) (hts _ (inA q984)) (fun _ h9 => h9) rfl dX8_constant_11 ?_
    refine va_put (D := D) (ci := 8) (v := .int o_L.1) (ty := .int) (C := RX8) (T := TX8) (N := 48) hx hb hts layX8 tyX8 tyX8_ok nmX8 hown hK hP hD hS 0 rfl rfl 32 (by decide) (hts _ (inA q1010)) (fun _ h9 => h9) rfl (by decide +kernel) rfl rfl (Nat.le_of_ble_eq_true rfl) dX8_constant_14 (fun H locs hP hD hS => ?_)
    have hP : va_P D vwCl (wM_CXLNTUO cI ad o_X o_L o_N o_T o_U (o_O.1, o_O.2.1, o_O.2.2.1, o_O.2.2.2.1, o_O.2.2.2.2.1, o_L.1) o_E o_Q o_V o_I o_C) H := hP
    have hD : va_D A (wM_CXLNTUO cI ad o_X o_L o_N o_T o_U (o_O.1, o_O.2.1, o_O.2.2.1, o_O.2.2.2.1, o_O.2.2.2.2.1, o_L.1) o_E o_Q o_V o_I o_C) := hD
    refine lv_aload_n hx hb dX8_constant_17 rfl (lv_at hl 0 rfl) ?_
    obtain ⟨r18, hcr18, hM⟩ := ob_use hM
    refine cl_V (As := []) (rest := []) (wM_CXLNTUO cI ad o_X r18.1 r18.2 o_T o_U (o_O.1, o_O.2.1, o_O.2.2.1, o_O.2.2.2.1, o_O.2.2.2.2.1, o_L.1) o_E o_Q o_V o_I o_C) [] ⟨hx, hb, hml, hown, hts⟩ (c_Model_step l D cI sd ad o_T o_U (o_O.1, o_O.2.1, o_O.2.2.1, o_O.2.2.2.1, o_O.2.2.2.2.1, o_L.1) o_E o_Q o_V o_I o_C o_X o_L o_N r18 hcr18) (cwV2 hts q1151 mvX8_step rfl rfl ⟨(Nat.le_of_ble_eq_true rfl), (Nat.le_of_ble_eq_true rfl)⟩) hK hE hA hP hD hS 0 (T := TX8) (N := 48) (ci := 8) rfl rfl [0, 1, 2, 3, 4, 5, 6, 7] rfl (by decide) (mrgE rfl rfl) rfl rfl rfl rfl rfl hl.1 (Nat.le_of_ble_eq_true rfl) dX8_constant_18 ⟨Nat.zero_le _, Nat.zero_le _⟩ (fun H locs hP hD hS => ?_)
    refine lv_aload_n hx hb dX8_constant_21 rfl (lv_at hl 0 rfl) ?_
    refine lv_bipush (v := 114) hx hb dX8_constant_22 (by decide) ?_
    obtain ⟨r19, hcr19, hM⟩ := ob_use hM
    refine cl_V (As := [.int 114]) (rest := []) (wM_CXLNTUO cI ad o_X r18.1 r18.2 o_T r19 (o_O.1, o_O.2.1, o_O.2.2.1, o_O.2.2.2.1, o_O.2.2.2.2.1, o_L.1) o_E o_Q o_V o_I o_C) [] ⟨hx, hb, hml, hown, hts⟩ (c_Model_push l D cI sd ad o_C o_X r18.1 r18.2 o_T (o_O.1, o_O.2.1, o_O.2.2.1, o_O.2.2.2.1, o_O.2.2.2.2.1, o_L.1) o_E o_Q o_V o_I o_U 114 r19 hcr19) (cwV2 hts q1147 mvX8_push rfl rfl ⟨(Nat.le_of_ble_eq_true rfl), (Nat.le_of_ble_eq_true rfl)⟩) hK hE hA hP hD hS 0 (T := TX8) (N := 48) (ci := 8) rfl rfl [0, 15] rfl (by decide) rfl rfl rfl rfl rfl rfl hl.1 (Nat.le_of_ble_eq_true rfl) dX8_constant_24 ⟨Nat.zero_le _, Nat.zero_le _⟩ (fun H locs hP hD hS => ?_)
    refine lv_goto (tgt := 113) hx hb dX8_constant_27 (by decide) ?_
    cases hM
    exact rt_v hx hb hr hlk hP hD hS rfl dX8_constant_113

set_option maxHeartbeats 4000000 in
set_option maxRecDepth 100000 in
theorem c_Model_lessNumber (l : Launch) (D : va_G) (cI : ClassId) (sd : Nat → Nat) (ad : Nat → Nat) (o_U : S_MU) (o_E : S_ME) (o_Q : S_MQ) (o_V : S_MV) (o_I : S_MI) (o_C : S_MC) (o_X : S_MX) (o_L : S_ML) (o_N : S_MN) (o_T : S_MT) (o_O : S_MO) (res : S_ML × S_MN × S_MT) (hM : f_Model_lessNumber o_C o_X o_L o_N o_T o_O = some res) : Ctr l D cI sd yX8_lessNumber (wsM yX8_lessNumber cX8_lessNumber 1 (Option.none : Option Jvm.ClassFile.FieldType)) { frames := 6, cells := 0, slots := 0, locals := 133 } [.ref (ad 100)] (wM_CXLNTO cI ad o_X o_L o_N o_T o_U o_O o_E o_Q o_V o_I o_C) (wM_CXLNTO cI ad o_X res.1 res.2.1 res.2.2 o_U o_O o_E o_Q o_V o_I o_C) none := by
  refine Ctr.of (cc := cX8_lessNumber) (maxL := 1) (own := RX8) (by decide +kernel) rfl rfl (Nat.le_of_ble_eq_true rfl) ?_
  intro p e s m below meth c A ls hx hb hr hml hown hts hlk hK hE hA hP hD hS hl
  have hl : lv_has ls 1 [(0, .ref (ad 100))] := hl
  unfold f_Model_lessNumber at hM
  refine lv_aload_n hx hb dX8_lessNumber_0 rfl (lv_at hl 0 rfl) ?_
  refine lv_bipush (v := 30) hx hb dX8_lessNumber_1 (by decide) ?_
  refine lv_aload_n hx hb dX8_lessNumber_3 rfl (lv_at hl 0 rfl) ?_
  refine va_get (D := D) (ci := 8) (v := .int o_O.2.2.2.2.2) (C := RX8) (T := TX8) (N := 48) hx hb hts layX8 hown hK hP 0 rfl rfl 32 (by decide) (hts _ (inA q1010)) (fun _ h9 => h9) rfl dX8_lessNumber_4 ?_
  refine lv_aload_n hx hb dX8_lessNumber_7 rfl (lv_at hl 0 rfl) ?_
  refine va_get (D := D) (ci := 8) (v := .int o_L.2.2.1) (C := RX8) (T := TX8) (N := 48) hx hb hts layX8 hown hK hP 0 rfl rfl 8 (by decide) (hts _ (inA q986)) (fun _ h9 => h9) rfl dX8_lessNumber_8 ?_
  refine lv_ineg hx hb dX8_lessNumber_11 ?_
  obtain ⟨r1, hcr1, hM⟩ := ob_use hM
  refine cl_V (As := [.int 30, .int o_O.2.2.2.2.2, .int (-o_L.2.2.1)]) (rest := []) (wM_CXLNTO cI ad o_X o_L o_N r1 o_U o_O o_E o_Q o_V o_I o_C) [] ⟨hx, hb, hml, hown, hts⟩ (c_Model_leaf l D cI sd ad o_C o_X o_L o_N o_U o_O o_E o_Q o_V o_I o_T 30 o_O.2.2.2.2.2 (-o_L.2.2.1) r1 hcr1) (cwV2 hts q1277 mvX8_leaf rfl rfl ⟨(Nat.le_of_ble_eq_true rfl), (Nat.le_of_ble_eq_true rfl)⟩) hK hE hA hP hD hS 0 (T := TX8) (N := 48) (ci := 8) rfl rfl [0, 8, 9, 10, 11, 12, 13, 14] rfl (by decide) (mrgE rfl rfl) rfl rfl rfl rfl rfl hl.1 (Nat.le_of_ble_eq_true rfl) dX8_lessNumber_12 ⟨Nat.zero_le _, Nat.zero_le _⟩ (fun H locs hP hD hS => ?_)
  refine lv_aload_n hx hb dX8_lessNumber_15 rfl (lv_at hl 0 rfl) ?_
  refine lv_bipush (v := 81) hx hb dX8_lessNumber_16 (by decide) ?_
  obtain ⟨r2, hcr2, hM⟩ := ob_use hM
  refine cl_V (As := [.int 81]) (rest := []) (wM_CXLNTO cI ad o_X r2.1 r2.2 r1 o_U o_O o_E o_Q o_V o_I o_C) [] ⟨hx, hb, hml, hown, hts⟩ (c_Model_pass l D cI sd ad r1 o_U o_O o_E o_Q o_V o_I o_C o_X o_L o_N 81 r2 hcr2) (cwV2 hts q1229 mvX8_pass rfl rfl ⟨(Nat.le_of_ble_eq_true rfl), (Nat.le_of_ble_eq_true rfl)⟩) hK hE hA hP hD hS 0 (T := TX8) (N := 48) (ci := 8) rfl rfl [0, 1, 2, 3, 4, 5, 6, 7] rfl (by decide) (mrgE rfl rfl) rfl rfl rfl rfl rfl hl.1 (Nat.le_of_ble_eq_true rfl) dX8_lessNumber_18 ⟨Nat.zero_le _, Nat.zero_le _⟩ (fun H locs hP hD hS => ?_)
  cases hM
  exact rt_v hx hb hr hlk hP hD hS rfl dX8_lessNumber_21

set_option maxHeartbeats 4000000 in
set_option maxRecDepth 100000 in
theorem c_Model_perhaps (l : Launch) (D : va_G) (cI : ClassId) (sd : Nat → Nat) (ad : Nat → Nat) (o_T : S_MT) (o_O : S_MO) (o_E : S_ME) (o_Q : S_MQ) (o_V : S_MV) (o_I : S_MI) (o_C : S_MC) (o_X : S_MX) (o_L : S_ML) (o_N : S_MN) (o_U : S_MU) (a1 : Int32) (a2 : Int32) (a3 : Int32) (res : S_ML × S_MN × S_MU) (hM : f_Model_perhaps o_C o_X o_L o_N o_U a1 a2 a3 = some res) : Ctr l D cI sd yX8_perhaps (wsM yX8_perhaps cX8_perhaps 4 (Option.none : Option Jvm.ClassFile.FieldType)) { frames := 5, cells := 0, slots := 0, locals := 112 } [.ref (ad 100), .int a1, .int a2, .int a3] (wM_CXLNU cI ad o_X o_L o_N o_T o_U o_O o_E o_Q o_V o_I o_C) (wM_CXLNU cI ad o_X res.1 res.2.1 o_T res.2.2 o_O o_E o_Q o_V o_I o_C) none := by
  refine Ctr.of (cc := cX8_perhaps) (maxL := 4) (own := RX8) (by decide +kernel) rfl rfl (Nat.le_of_ble_eq_true rfl) ?_
  intro p e s m below meth c A ls hx hb hr hml hown hts hlk hK hE hA hP hD hS hl
  have hl : lv_has ls 4 [(0, .ref (ad 100)), (1, .int a1), (2, .int a2), (3, .int a3)] := hl
  unfold f_Model_perhaps at hM
  refine lv_aload_n hx hb dX8_perhaps_0 rfl (lv_at hl 0 rfl) ?_
  refine va_get (D := D) (ci := 8) (v := .int o_L.2.1) (C := RX8) (T := TX8) (N := 48) hx hb hts layX8 hown hK hP 0 rfl rfl 7 (by decide) (hts _ (inA q985)) (fun _ h9 => h9) rfl dX8_perhaps_1 ?_
  refine lv_iload_n hx hb dX8_perhaps_4 rfl (lv_at hl 1 rfl) ?_
  refine lv_icmp_ne (tgt := 27) hx hb dX8_perhaps_5 (by decide) (fun c1 => ?_) (fun c1 => ?_)
  · replace hM := if_f c1 hM
    cases hM
    exact rt_v hx hb hr hlk hP hD hS rfl dX8_perhaps_27
  · replace hM := if_t c1 hM
    refine lv_aload_n hx hb dX8_perhaps_8 rfl (lv_at hl 0 rfl) ?_
    obtain ⟨r2, hcr2, hM⟩ := ob_use hM
    refine cl_V (As := []) (rest := []) (wM_CXLNU cI ad o_X r2.1 r2.2 o_T o_U o_O o_E o_Q o_V o_I o_C) [] ⟨hx, hb, hml, hown, hts⟩ (c_Model_step l D cI sd ad o_T o_U o_O o_E o_Q o_V o_I o_C o_X o_L o_N r2 hcr2) (cwV2 hts q1151 mvX8_step rfl rfl ⟨(Nat.le_of_ble_eq_true rfl), (Nat.le_of_ble_eq_true rfl)⟩) hK hE hA hP hD hS 0 (T := TX8) (N := 48) (ci := 8) rfl rfl [0, 1, 2, 3, 4, 5, 6, 7] rfl (by decide) (mrgE rfl rfl) rfl rfl rfl rfl rfl hl.1 (Nat.le_of_ble_eq_true rfl) dX8_perhaps_9 ⟨Nat.zero_le _, Nat.zero_le _⟩ (fun H locs hP hD hS => ?_)
    refine lv_iload_n hx hb dX8_perhaps_12 rfl (lv_at hl 2 rfl) ?_
    refine lv_iconst (v := (-1)) hx hb dX8_perhaps_13 (by decide) ?_
    refine lv_icmp_eq (tgt := 22) hx hb dX8_perhaps_14 (by decide) (fun c3 => ?_) (fun c3 => ?_)
    · replace hM := if_t c3 hM
      refine lv_aload_n hx hb dX8_perhaps_22 rfl (lv_at hl 0 rfl) ?_
      refine lv_iload_n hx hb dX8_perhaps_23 rfl (lv_at hl 3 rfl) ?_
      obtain ⟨r4, hcr4, hM⟩ := ob_use hM
      refine cl_V (As := [.int a3]) (rest := []) (wM_CXLNU cI ad o_X r2.1 r2.2 o_T r4 o_O o_E o_Q o_V o_I o_C) [] ⟨hx, hb, hml, hown, hts⟩ (c_Model_push l D cI sd ad o_C o_X r2.1 r2.2 o_T o_O o_E o_Q o_V o_I o_U a3 r4 hcr4) (cwV2 hts q1147 mvX8_push rfl rfl ⟨(Nat.le_of_ble_eq_true rfl), (Nat.le_of_ble_eq_true rfl)⟩) hK hE hA hP hD hS 0 (T := TX8) (N := 48) (ci := 8) rfl rfl [0, 8] rfl (by decide) rfl rfl rfl rfl rfl rfl hl.1 (Nat.le_of_ble_eq_true rfl) dX8_perhaps_24 ⟨Nat.zero_le _, Nat.zero_le _⟩ (fun H locs hP hD hS => ?_)
      cases hM
      exact rt_v hx hb hr hlk hP hD hS rfl dX8_perhaps_27
    · replace hM := if_f c3 hM
      refine lv_aload_n hx hb dX8_perhaps_17 rfl (lv_at hl 0 rfl) ?_
      refine lv_iload_n hx hb dX8_perhaps_18 rfl (lv_at hl 2 rfl) ?_
      obtain ⟨r5, hcr5, hM⟩ := ob_use hM
      refine cl_V (As := [.int a2]) (rest := []) (wM_CXLNU cI ad o_X r2.1 r2.2 o_T r5 o_O o_E o_Q o_V o_I o_C) [] ⟨hx, hb, hml, hown, hts⟩ (c_Model_push l D cI sd ad o_C o_X r2.1 r2.2 o_T o_O o_E o_Q o_V o_I o_U a2 r5 hcr5) (cwV2 hts q1147 mvX8_push rfl rfl ⟨(Nat.le_of_ble_eq_true rfl), (Nat.le_of_ble_eq_true rfl)⟩) hK hE hA hP hD hS 0 (T := TX8) (N := 48) (ci := 8) rfl rfl [0, 8] rfl (by decide) rfl rfl rfl rfl rfl rfl hl.1 (Nat.le_of_ble_eq_true rfl) dX8_perhaps_19 ⟨Nat.zero_le _, Nat.zero_le _⟩ (fun H locs hP hD hS => ?_)
      refine lv_aload_n hx hb dX8_perhaps_22 rfl (lv_at hl 0 rfl) ?_
      refine lv_iload_n hx hb dX8_perhaps_23 rfl (lv_at hl 3 rfl) ?_
      obtain ⟨r6, hcr6, hM⟩ := ob_use hM
      refine cl_V (As := [.int a3]) (rest := []) (wM_CXLNU cI ad o_X r2.1 r2.2 o_T r6 o_O o_E o_Q o_V o_I o_C) [] ⟨hx, hb, hml, hown, hts⟩ (c_Model_push l D cI sd ad o_C o_X r2.1 r2.2 o_T o_O o_E o_Q o_V o_I r5 a3 r6 hcr6) (cwV2 hts q1147 mvX8_push rfl rfl ⟨(Nat.le_of_ble_eq_true rfl), (Nat.le_of_ble_eq_true rfl)⟩) hK hE hA hP hD hS 0 (T := TX8) (N := 48) (ci := 8) rfl rfl [0, 8] rfl (by decide) rfl rfl rfl rfl rfl rfl hl.1 (Nat.le_of_ble_eq_true rfl) dX8_perhaps_24 ⟨Nat.zero_le _, Nat.zero_le _⟩ (fun H locs hP hD hS => ?_)
      cases hM
      exact rt_v hx hb hr hlk hP hD hS rfl dX8_perhaps_27

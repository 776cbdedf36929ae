set_option maxHeartbeats 4000000 in
set_option maxRecDepth 100000 in
theorem c_Model_output (l : Launch) (D : va_G) (cI : ClassId) (sd : Nat → Nat) (ad : Nat → Nat) (o_U : S_MU) (o_Q : S_MQ) (o_V : S_MV) (o_I : S_MI) (o_C : S_MC) (o_X : S_MX) (o_L : S_ML) (o_N : S_MN) (o_T : S_MT) (o_O : S_MO) (o_E : S_ME) (res : S_ML × S_MN × S_MT × S_MO × S_ME) (hM : f_Model_output o_C o_X o_L o_N o_T o_O o_E = some res) : Ctr l D cI sd yX8_output (wsM yX8_output cX8_output 1 (Option.none : Option Jvm.ClassFile.FieldType)) { frames := 6, cells := 0, slots := 0, locals := 133 } [.ref (ad 100)] (wM_CXLNTOE cI ad o_X o_L o_N o_T o_U o_O o_E o_Q o_V o_I o_C) (wM_CXLNTOE cI ad o_X res.1 res.2.1 res.2.2.1 o_U res.2.2.2.1 res.2.2.2.2 o_Q o_V o_I o_C) none := by
  refine Ctr.of (cc := cX8_output) (maxL := 1) (own := RX8) (by decide +kernel) rfl rfl (Nat.le_of_ble_eq_true rfl) ?_
  intro p e s m below meth c A ls hx hb hr hml hown hts hlk hK hE hA hP hD hS hl
  have hl : lv_has ls 1 [(0, .ref (ad 100))] := hl
  unfold f_Model_output at hM
  refine lv_aload_n hx hb dX8_output_0 rfl (lv_at hl 0 rfl) ?_
  refine lv_aload_n hx hb dX8_output_1 rfl (lv_at hl 0 rfl) ?_
  refine lv_bipush (v := 6) hx hb dX8_output_2 (by decide) ?_
  refine lv_aload_n hx hb dX8_output_4 rfl (lv_at hl 0 rfl) ?_
  refine va_get (D := D) (ci := 8) (v := .int o_L.1) (C := RX8) (T := TX8) (N := 48) hx hb hts layX8 hown hK hP 0 rfl rfl 6 (by decide) (hts _ (inA q984)) (fun _ h9 => h9) rfl dX8_output_5 ?_
  refine lv_aload_n hx hb dX8_output_8 rfl (lv_at hl 0 rfl) ?_
  refine va_get (D := D) (ci := 8) (v := .int o_L.2.2.1) (C := RX8) (T := TX8) (N := 48) hx hb hts layX8 hown hK hP 0 rfl rfl 8 (by decide) (hts _ (inA q986)) (fun _ h9 => h9) rfl dX8_output_9 ?_
  obtain ⟨r1, hcr1, hM⟩ := ob_use hM
  refine cl_V (As := [.int 6, .int o_L.1, .int o_L.2.2.1]) (rest := [.ref (ad 100)]) (wM_CXLNTOE cI ad o_X o_L o_N r1.2 o_U o_O o_E o_Q o_V o_I o_C) (.int r1.1 :: [.ref (ad 100)]) ⟨hx, hb, hml, hown, hts⟩ (c_Model_make l D cI sd ad o_C o_X o_L o_N o_U o_O o_E o_Q o_V o_I o_T 6 o_L.1 o_L.2.2.1 r1 hcr1) (cwV2 hts q1143 mvX8_make rfl rfl ⟨(Nat.le_of_ble_eq_true rfl), (Nat.le_of_ble_eq_true rfl)⟩) hK hE hA hP hD hS 0 (T := TX8) (N := 48) (ci := 8) rfl rfl [0, 8, 9, 10, 11, 12, 13, 14] rfl (by decide) (mrgE rfl rfl) rfl rfl rfl rfl rfl hl.1 (Nat.le_of_ble_eq_true rfl) dX8_output_12 ⟨Nat.zero_le _, Nat.zero_le _⟩ (fun H locs hP hD hS => ?_)
  refine lv_aload_n hx hb dX8_output_15 rfl (lv_at hl 0 rfl) ?_
  refine va_get (D := D) (ci := 8) (v := .ref (ad 119)) (C := RX8) (T := TX8) (N := 48) hx hb hts layX8 hown hK hP 0 rfl rfl 39 (by decide) (hts _ (inA q1017)) (fun _ h9 => h9) rfl dX8_output_16 ?_
  refine lv_aload_n hx hb dX8_output_19 rfl (lv_at hl 0 rfl) ?_
  refine va_get (D := D) (ci := 8) (v := .int o_E.2.2.1) (C := RX8) (T := TX8) (N := 48) hx hb hts layX8 hown hK hP 0 rfl rfl 38 (by decide) (hts _ (inA q1016)) (fun _ h9 => h9) rfl dX8_output_20 ?_
  refine lv_iconst (v := 1) hx hb dX8_output_23 (by decide) ?_
  refine lv_isub hx hb dX8_output_24 ?_
  obtain ⟨b2, hM⟩ := gd_use hM
  refine va_iald hx hb hK hP 18 0 rfl rfl b2 dX8_output_25 ?_
  obtain ⟨r3, hcr3, hM⟩ := ob_use hM
  refine cl_V (As := [.int r1.1, .int (o_E.2.2.2.2.2.2 (o_E.2.2.1 - 1).toNatClampNeg)]) (rest := []) (wM_CXLNTOE cI ad o_X o_L o_N r3 o_U o_O o_E o_Q o_V o_I o_C) [] ⟨hx, hb, hml, hown, hts⟩ (c_Model_hang l D cI sd ad o_C o_X o_L o_N o_U o_O o_E o_Q o_V o_I r1.2 r1.1 (o_E.2.2.2.2.2.2 (o_E.2.2.1 - 1).toNatClampNeg) r3 hcr3) (cwV2 hts q1249 mvX8_hang rfl rfl ⟨(Nat.le_of_ble_eq_true rfl), (Nat.le_of_ble_eq_true rfl)⟩) hK hE hA hP hD hS 0 (T := TX8) (N := 48) (ci := 8) rfl rfl [0, 8, 9, 10, 11, 12, 13, 14] rfl (by decide) (mrgE rfl rfl) rfl rfl rfl rfl rfl hl.1 (Nat.le_of_ble_eq_true rfl) dX8_output_26 ⟨Nat.zero_le _, Nat.zero_le _⟩ (fun H locs hP hD hS => ?_)
  refine lv_aload_n hx hb dX8_output_29 rfl (lv_at hl 0 rfl) ?_
  obtain ⟨r4, hcr4, hM⟩ := ob_use hM
  refine cl_V (As := []) (rest := []) (wM_CXLNTOE cI ad o_X o_L o_N r4.1 o_U r4.2.1 r4.2.2 o_Q o_V o_I o_C) [] ⟨hx, hb, hml, hown, hts⟩ (c_Model_finish l D cI sd ad o_C o_X o_L o_N o_U o_Q o_V o_I r3 o_O o_E r4 hcr4) (cwV2 hts q1436 mvX8_finish rfl rfl ⟨(Nat.le_of_ble_eq_true rfl), (Nat.le_of_ble_eq_true rfl)⟩) hK hE hA hP hD hS 0 (T := TX8) (N := 48) (ci := 8) rfl rfl [0, 8, 9, 10, 11, 12, 13, 14, 15, 16, 17, 18] rfl (by decide) (mrgE rfl rfl) rfl rfl rfl rfl rfl hl.1 (Nat.le_of_ble_eq_true rfl) dX8_output_30 ⟨Nat.zero_le _, Nat.zero_le _⟩ (fun H locs hP hD hS => ?_)
  refine lv_aload_n hx hb dX8_output_33 rfl (lv_at hl 0 rfl) ?_
  refine lv_bipush (v := 80) hx hb dX8_output_34 (by decide) ?_
  obtain ⟨r5, hcr5, hM⟩ := ob_use hM
  refine cl_V (As := [.int 80]) (rest := []) (wM_CXLNTOE cI ad o_X r5.1 r5.2 r4.1 o_U r4.2.1 r4.2.2 o_Q o_V o_I o_C) [] ⟨hx, hb, hml, hown, hts⟩ (c_Model_pass l D cI sd ad r4.1 o_U r4.2.1 r4.2.2 o_Q o_V o_I o_C o_X o_L o_N 80 r5 hcr5) (cwV2 hts q1229 mvX8_pass rfl rfl ⟨(Nat.le_of_ble_eq_true rfl), (Nat.le_of_ble_eq_true rfl)⟩) hK hE hA hP hD hS 0 (T := TX8) (N := 48) (ci := 8) rfl rfl [0, 1, 2, 3, 4, 5, 6, 7] rfl (by decide) (mrgE rfl rfl) rfl rfl rfl rfl rfl hl.1 (Nat.le_of_ble_eq_true rfl) dX8_output_36 ⟨Nat.zero_le _, Nat.zero_le _⟩ (fun H locs hP hD hS => ?_)
  cases hM
  exact rt_v hx hb hr hlk hP hD hS rfl dX8_output_39

set_option maxHeartbeats 4000000 in
set_option maxRecDepth 100000 in
theorem c_Model_resultEnd (l : Launch) (D : va_G) (cI : ClassId) (sd : Nat → Nat) (ad : Nat → Nat) (o_U : S_MU) (o_Q : S_MQ) (o_V : S_MV) (o_I : S_MI) (o_C : S_MC) (o_X : S_MX) (o_L : S_ML) (o_N : S_MN) (o_T : S_MT) (o_O : S_MO) (o_E : S_ME) (res : S_ML × S_MN × S_MT × S_MO × S_ME) (hM : f_Model_resultEnd o_C o_X o_L o_N o_T o_O o_E = some res) : Ctr l D cI sd yX8_resultEnd (wsM yX8_resultEnd cX8_resultEnd 1 (Option.none : Option Jvm.ClassFile.FieldType)) { frames := 6, cells := 0, slots := 0, locals := 133 } [.ref (ad 100)] (wM_CXLNTOE cI ad o_X o_L o_N o_T o_U o_O o_E o_Q o_V o_I o_C) (wM_CXLNTOE cI ad o_X res.1 res.2.1 res.2.2.1 o_U res.2.2.2.1 res.2.2.2.2 o_Q o_V o_I o_C) none := by
  refine Ctr.of (cc := cX8_resultEnd) (maxL := 1) (own := RX8) (by decide +kernel) rfl rfl (Nat.le_of_ble_eq_true rfl) ?_
  intro p e s m below meth c A ls hx hb hr hml hown hts hlk hK hE hA hP hD hS hl
  have hl : lv_has ls 1 [(0, .ref (ad 100))] := hl
  unfold f_Model_resultEnd at hM
  refine lv_aload_n hx hb dX8_resultEnd_0 rfl (lv_at hl 0 rfl) ?_
  refine lv_dup hx hb dX8_resultEnd_1 rfl ?_
  refine va_get (D := D) (ci := 8) (v := .int o_O.1) (C := RX8) (T := TX8) (N := 48) hx hb hts layX8 hown hK hP 0 rfl rfl 27 (by decide) (hts _ (inA q1005)) (fun _ h9 => h9) rfl dX8_resultEnd_2 ?_
  refine lv_iconst (v := 1) hx hb dX8_resultEnd_5 (by decide) ?_
  refine lv_isub hx hb dX8_resultEnd_6 ?_
  refine va_put (D := D) (ci := 8) (v := .int (o_O.1 - 1)) (ty := .int) (C := RX8) (T := TX8) (N := 48) hx hb hts layX8 tyX8 tyX8_ok nmX8 hown hK hP hD hS 0 rfl rfl 27 (by decide) (hts _ (inA q1005)) (fun _ h9 => h9) rfl (by decide +kernel) rfl rfl (Nat.le_of_ble_eq_true rfl) dX8_resultEnd_7 (fun H locs hP hD hS => ?_)
  have hP : va_P D vwCl (wM_CXLNTOE cI ad o_X o_L o_N o_T o_U (o_O.1 - 1, o_O.2) o_E o_Q o_V o_I o_C) H := hP
  have hD : va_D A (wM_CXLNTOE cI ad o_X o_L o_N o_T o_U (o_O.1 - 1, o_O.2) o_E o_Q o_V o_I o_C) := hD
  refine lv_aload_n hx hb dX8_resultEnd_10 rfl (lv_at hl 0 rfl) ?_
  obtain ⟨r1, hcr1, hM⟩ := ob_use hM
  refine cl_V (As := []) (rest := []) (wM_CXLNTOE cI ad o_X o_L o_N r1.1 o_U r1.2.1 r1.2.2 o_Q o_V o_I o_C) [] ⟨hx, hb, hml, hown, hts⟩ (c_Model_finish l D cI sd ad o_C o_X o_L o_N o_U o_Q o_V o_I o_T (o_O.1 - 1, o_O.2) o_E r1 hcr1) (cwV2 hts q1436 mvX8_finish rfl rfl ⟨(Nat.le_of_ble_eq_true rfl), (Nat.le_of_ble_eq_true rfl)⟩) hK hE hA hP hD hS 0 (T := TX8) (N := 48) (ci := 8) rfl rfl [0, 8, 9, 10, 11, 12, 13, 14, 15, 16, 17, 18] rfl (by decide) (mrgE rfl rfl) rfl rfl rfl rfl rfl hl.1 (Nat.le_of_ble_eq_true rfl) dX8_resultEnd_11 ⟨Nat.zero_le _, Nat.zero_le _⟩ (fun H locs hP hD hS => ?_)
  refine lv_aload_n hx hb dX8_resultEnd_14 rfl (lv_at hl 0 rfl) ?_
  refine lv_bipush (v := 56) hx hb dX8_resultEnd_15 (by decide) ?_
  obtain ⟨r2, hcr2, hM⟩ := ob_use hM
  refine cl_V (As := [.int 56]) (rest := []) (wM_CXLNTOE cI ad o_X r2.1 r2.2 r1.1 o_U r1.2.1 r1.2.2 o_Q o_V o_I o_C) [] ⟨hx, hb, hml, hown, hts⟩ (c_Model_pass l D cI sd ad r1.1 o_U r1.2.1 r1.2.2 o_Q o_V o_I o_C o_X o_L o_N 56 r2 hcr2) (cwV2 hts q1229 mvX8_pass rfl rfl ⟨(Nat.le_of_ble_eq_true rfl), (Nat.le_of_ble_eq_true rfl)⟩) hK hE hA hP hD hS 0 (T := TX8) (N := 48) (ci := 8) rfl rfl [0, 1, 2, 3, 4, 5, 6, 7] rfl (by decide) (mrgE rfl rfl) rfl rfl rfl rfl rfl hl.1 (Nat.le_of_ble_eq_true rfl) dX8_resultEnd_17 ⟨Nat.zero_le _, Nat.zero_le _⟩ (fun H locs hP hD hS => ?_)
  cases hM
  exact rt_v hx hb hr hlk hP hD hS rfl dX8_resultEnd_20

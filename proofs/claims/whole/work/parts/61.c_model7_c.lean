set_option maxHeartbeats 4000000 in
set_option maxRecDepth 100000 in
theorem c_Model_openParts (l : Launch) (D : va_G) (cI : ClassId) (sd : Nat → Nat) (ad : Nat → Nat) (o_X : S_MX) (o_L : S_ML) (o_N : S_MN) (o_U : S_MU) (o_O : S_MO) (o_E : S_ME) (o_Q : S_MQ) (o_C : S_MC) (o_T : S_MT) (o_V : S_MV) (o_I : S_MI) (a1 : Int32) (res : S_MV × S_MI) (hM : f_Model_openParts o_C o_T o_V o_I a1 = some res) : Ctr l D cI sd yX8_openParts (wsM yX8_openParts cX8_openParts 3 (Option.none : Option Jvm.ClassFile.FieldType)) { frames := 4, cells := 0, slots := 0, locals := 83 } [.ref (ad 100), .int a1] (wM_CTVI cI ad o_X o_L o_N o_T o_U o_O o_E o_Q o_V o_I o_C) (wM_CTVI cI ad o_X o_L o_N o_T o_U o_O o_E o_Q res.1 res.2 o_C) none := by
  refine Ctr.of (cc := cX8_openParts) (maxL := 3) (own := RX8) (by decide +kernel) rfl rfl (Nat.le_of_ble_eq_true rfl) ?_
  intro p e s m below meth c A ls hx hb hr hml hown hts hlk hK hE hA hP hD hS hl
  have hl : lv_has ls 3 [(0, .ref (ad 100)), (1, .int a1)] := hl
  unfold f_Model_openParts at hM
  refine lv_iload_n hx hb dX8_openParts_0 rfl (lv_at hl 1 rfl) ?_
  refine lv_iconst (v := (-1)) hx hb dX8_openParts_1 (by decide) ?_
  refine lv_icmp_ne (tgt := 12) hx hb dX8_openParts_2 (by decide) (fun c1 => ?_) (fun c1 => ?_)
  · replace hM := if_f c1 hM
    refine lv_aload_n hx hb dX8_openParts_12 rfl (lv_at hl 0 rfl) ?_
    refine va_get (D := D) (ci := 8) (v := .ref (ad 108)) (C := RX8) (T := TX8) (N := 48) hx hb hts layX8 hown hK hP 0 rfl rfl 17 (by decide) (hts _ (inA q995)) (fun _ h9 => h9) rfl dX8_openParts_13 ?_
    refine lv_iload_n hx hb dX8_openParts_16 rfl (lv_at hl 1 rfl) ?_
    obtain ⟨b2, hM⟩ := gd_use hM
    refine va_iald hx hb hK hP 5 0 rfl rfl b2 dX8_openParts_17 ?_
    refine lv_topi (fun x3 ex3 => ?_)
    replace hM := nm_use ex3 hM
    refine lv_istore_n (lv' := [(2, .int x3), (0, .ref (ad 100)), (1, .int a1)]) hx hb dX8_openParts_18 rfl hl (by decide) rfl (fun ls hl => ?_)
    refine lv_aload_n hx hb dX8_openParts_19 rfl (lv_at hl 1 rfl) ?_
    refine lv_bipush (v := 7) hx hb dX8_openParts_20 (by decide) ?_
    refine lv_aload_n hx hb dX8_openParts_22 rfl (lv_at hl 1 rfl) ?_
    refine va_get (D := D) (ci := 8) (v := .ref (ad 114)) (C := RX8) (T := TX8) (N := 48) hx hb hts layX8 hown hK hP 0 rfl rfl 23 (by decide) (hts _ (inA q1001)) (fun _ h9 => h9) rfl dX8_openParts_23 ?_
    refine lv_iload_n hx hb dX8_openParts_26 rfl (lv_at hl 2 rfl) ?_
    obtain ⟨b4, hM⟩ := gd_use hM
    refine va_iald hx hb hK hP 11 0 rfl rfl b4 dX8_openParts_27 ?_
    obtain ⟨r5, hcr5, hM⟩ := ob_use hM
    refine cl_V (As := [.int 7, .int (o_T.2.2.2.2.2.2.2.2 a1.toNatClampNeg)]) (rest := []) (wM_CTVI cI ad o_X o_L o_N o_T o_U o_O o_E o_Q o_V r5 o_C) [] ⟨hx, hb, hml, hown, hts⟩ (c_Model_item l D cI sd ad o_C o_X o_L o_N o_T o_U o_O o_E o_Q o_V o_I 7 (o_T.2.2.2.2.2.2.2.2 a1.toNatClampNeg) r5 hcr5) (cwV2 hts q1512 mvX8_item rfl rfl ⟨(Nat.le_of_ble_eq_true rfl), (Nat.le_of_ble_eq_true rfl)⟩) hK hE hA hP hD hS 0 (T := TX8) (N := 48) (ci := 8) rfl rfl [0, 13, 14] rfl (by decide) rfl rfl rfl rfl rfl rfl hl.1 (Nat.le_of_ble_eq_true rfl) dX8_openParts_28 ⟨Nat.zero_le _, Nat.zero_le _⟩ (fun H locs hP hD hS => ?_)
    refine lv_aload_n hx hb dX8_openParts_31 rfl (lv_at hl 1 rfl) ?_
    refine lv_iconst (v := 1) hx hb dX8_openParts_32 (by decide) ?_
    refine lv_iload_n hx hb dX8_openParts_33 rfl (lv_at hl 2 rfl) ?_
    obtain ⟨r6, hcr6, hM⟩ := ob_use hM
    refine cl_V (As := [.int 1, .int a1]) (rest := []) (wM_CTVI cI ad o_X o_L o_N o_T o_U o_O o_E o_Q o_V r6 o_C) [] ⟨hx, hb, hml, hown, hts⟩ (c_Model_item l D cI sd ad o_C o_X o_L o_N o_T o_U o_O o_E o_Q o_V r5 1 a1 r6 hcr6) (cwV2 hts q1512 mvX8_item rfl rfl ⟨(Nat.le_of_ble_eq_true rfl), (Nat.le_of_ble_eq_true rfl)⟩) hK hE hA hP hD hS 0 (T := TX8) (N := 48) (ci := 8) rfl rfl [0, 13, 14] rfl (by decide) rfl rfl rfl rfl rfl rfl hl.1 (Nat.le_of_ble_eq_true rfl) dX8_openParts_34 ⟨Nat.zero_le _, Nat.zero_le _⟩ (fun H locs hP hD hS => ?_)
    refine lv_aload_n hx hb dX8_openParts_37 rfl (lv_at hl 1 rfl) ?_
    refine lv_iconst (v := 0) hx hb dX8_openParts_38 (by decide) ?_
    refine lv_iload_n hx hb dX8_openParts_39 rfl (lv_at hl 0 rfl) ?_
    refine lv_bipush (v := 6) hx hb dX8_openParts_40 (by decide) ?_
    refine lv_icmp_ne (tgt := 50) hx hb dX8_openParts_42 (by decide) (fun c7 => ?_) (fun c7 => ?_)
    · replace hM := if_f c7 hM
      refine lv_iload_n hx hb dX8_openParts_50 rfl (lv_at hl 0 rfl) ?_
      refine lv_bipush (v := 7) hx hb dX8_openParts_51 (by decide) ?_
      refine lv_icmp_ne (tgt := 61) hx hb dX8_openParts_53 (by decide) (fun c8 => ?_) (fun c8 => ?_)
      · replace hM := if_f c8 hM
        refine lv_iload_n hx hb dX8_openParts_61 rfl (lv_at hl 0 rfl) ?_
        refine lv_bipush (v := 11) hx hb dX8_openParts_62 (by decide) ?_
        refine lv_icmp_ge (tgt := 72) hx hb dX8_openParts_64 (by decide) (fun c9 => ?_) (fun c9 => ?_)
        · replace hM := if_t c9 hM
          refine lv_bipush (v := 50) hx hb dX8_openParts_72 (by decide) ?_
          obtain ⟨r10, hcr10, hM⟩ := ob_use hM
          refine cl_V (As := [.int 0, .int 50]) (rest := []) (wM_CTVI cI ad o_X o_L o_N o_T o_U o_O o_E o_Q o_V r10 o_C) [] ⟨hx, hb, hml, hown, hts⟩ (c_Model_item l D cI sd ad o_C o_X o_L o_N o_T o_U o_O o_E o_Q o_V r6 0 50 r10 hcr10) (cwV2 hts q1512 mvX8_item rfl rfl ⟨(Nat.le_of_ble_eq_true rfl), (Nat.le_of_ble_eq_true rfl)⟩) hK hE hA hP hD hS 0 (T := TX8) (N := 48) (ci := 8) rfl rfl [0, 13, 14] rfl (by decide) rfl rfl rfl rfl rfl rfl hl.1 (Nat.le_of_ble_eq_true rfl) dX8_openParts_74 ⟨Nat.zero_le _, Nat.zero_le _⟩ (fun H locs hP hD hS => ?_)
          cases hM
          exact rt_v hx hb hr hlk hP hD hS rfl dX8_openParts_77
        · replace hM := if_f c9 hM
          refine lv_bipush (v := 61) hx hb dX8_openParts_67 (by decide) ?_
          refine lv_goto (tgt := 74) hx hb dX8_openParts_69 (by decide) ?_
          obtain ⟨r11, hcr11, hM⟩ := ob_use hM
          refine cl_V (As := [.int 0, .int 61]) (rest := []) (wM_CTVI cI ad o_X o_L o_N o_T o_U o_O o_E o_Q o_V r11 o_C) [] ⟨hx, hb, hml, hown, hts⟩ (c_Model_item l D cI sd ad o_C o_X o_L o_N o_T o_U o_O o_E o_Q o_V r6 0 61 r11 hcr11) (cwV2 hts q1512 mvX8_item rfl rfl ⟨(Nat.le_of_ble_eq_true rfl), (Nat.le_of_ble_eq_true rfl)⟩) hK hE hA hP hD hS 0 (T := TX8) (N := 48) (ci := 8) rfl rfl [0, 13, 14] rfl (by decide) rfl rfl rfl rfl rfl rfl hl.1 (Nat.le_of_ble_eq_true rfl) dX8_openParts_74 ⟨Nat.zero_le _, Nat.zero_le _⟩ (fun H locs hP hD hS => ?_)
          cases hM
          exact rt_v hx hb hr hlk hP hD hS rfl dX8_openParts_77
      · replace hM := if_t c8 hM
        refine lv_bipush (v := 10) hx hb dX8_openParts_56 (by decide) ?_
        refine lv_goto (tgt := 74) hx hb dX8_openParts_58 (by decide) ?_
        obtain ⟨r12, hcr12, hM⟩ := ob_use hM
        refine cl_V (As := [.int 0, .int 10]) (rest := []) (wM_CTVI cI ad o_X o_L o_N o_T o_U o_O o_E o_Q o_V r12 o_C) [] ⟨hx, hb, hml, hown, hts⟩ (c_Model_item l D cI sd ad o_C o_X o_L o_N o_T o_U o_O o_E o_Q o_V r6 0 10 r12 hcr12) (cwV2 hts q1512 mvX8_item rfl rfl ⟨(Nat.le_of_ble_eq_true rfl), (Nat.le_of_ble_eq_true rfl)⟩) hK hE hA hP hD hS 0 (T := TX8) (N := 48) (ci := 8) rfl rfl [0, 13, 14] rfl (by decide) rfl rfl rfl rfl rfl rfl hl.1 (Nat.le_of_ble_eq_true rfl) dX8_openParts_74 ⟨Nat.zero_le _, Nat.zero_le _⟩ (fun H locs hP hD hS => ?_)
        cases hM
        exact rt_v hx hb hr hlk hP hD hS rfl dX8_openParts_77
    · replace hM := if_t c7 hM
      refine lv_bipush (v := 59) hx hb dX8_openParts_45 (by decide) ?_
      refine lv_goto (tgt := 74) hx hb dX8_openParts_47 (by decide) ?_
      obtain ⟨r13, hcr13, hM⟩ := ob_use hM
      refine cl_V (As := [.int 0, .int 59]) (rest := []) (wM_CTVI cI ad o_X o_L o_N o_T o_U o_O o_E o_Q o_V r13 o_C) [] ⟨hx, hb, hml, hown, hts⟩ (c_Model_item l D cI sd ad o_C o_X o_L o_N o_T o_U o_O o_E o_Q o_V r6 0 59 r13 hcr13) (cwV2 hts q1512 mvX8_item rfl rfl ⟨(Nat.le_of_ble_eq_true rfl), (Nat.le_of_ble_eq_true rfl)⟩) hK hE hA hP hD hS 0 (T := TX8) (N := 48) (ci := 8) rfl rfl [0, 13, 14] rfl (by decide) rfl rfl rfl rfl rfl rfl hl.1 (Nat.le_of_ble_eq_true rfl) dX8_openParts_74 ⟨Nat.zero_le _, Nat.zero_le _⟩ (fun H locs hP hD hS => ?_)
      cases hM
      exact rt_v hx hb hr hlk hP hD hS rfl dX8_openParts_77
  · replace hM := if_t c1 hM
    refine lv_aload_n hx hb dX8_openParts_5 rfl (lv_at hl 0 rfl) ?_
    refine lv_bipush (v := 60) hx hb dX8_openParts_6 (by decide) ?_
    obtain ⟨r14, hcr14, hM⟩ := ob_use hM
    refine cl_V (As := [.int 60]) (rest := []) (wM_CTVI cI ad o_X o_L o_N o_T o_U o_O o_E o_Q r14 o_I o_C) [] ⟨hx, hb, hml, hown, hts⟩ (c_Model_putToken l D cI sd ad o_X o_L o_N o_T o_U o_O o_E o_Q o_I o_C o_V 60 r14 hcr14) (cwV2 hts q1520 mvX8_putToken rfl rfl ⟨(Nat.le_of_ble_eq_true rfl), (Nat.le_of_ble_eq_true rfl)⟩) hK hE hA hP hD hS 0 (T := TX8) (N := 48) (ci := 8) rfl rfl [0, 1, 2, 3, 4, 12] rfl (by decide) (mrgE rfl rfl) rfl rfl rfl rfl rfl hl.1 (Nat.le_of_ble_eq_true rfl) dX8_openParts_8 ⟨Nat.zero_le _, Nat.zero_le _⟩ (fun H locs hP hD hS => ?_)
    cases hM
    exact rt_v hx hb hr hlk hP hD hS rfl dX8_openParts_11

set_option maxHeartbeats 4000000 in
set_option maxRecDepth 100000 in
theorem c_Model_openIf (l : Launch) (D : va_G) (cI : ClassId) (sd : Nat → Nat) (ad : Nat → Nat) (o_C : S_MC) (o_X : S_MX) (o_L : S_ML) (o_N : S_MN) (o_U : S_MU) (o_O : S_MO) (o_E : S_ME) (o_Q : S_MQ) (o_V : S_MV) (o_T : S_MT) (o_I : S_MI) (a1 : Int32) (res : S_MI) (hM : f_Model_openIf o_T o_I a1 = some res) : Ctr l D cI sd yX8_openIf (wsM yX8_openIf cX8_openIf 3 (Option.none : Option Jvm.ClassFile.FieldType)) { frames := 1, cells := 0, slots := 0, locals := 22 } [.ref (ad 100), .int a1] (wM_TI cI ad o_X o_L o_N o_T o_U o_O o_E o_Q o_V o_I) (wM_TI cI ad o_X o_L o_N o_T o_U o_O o_E o_Q o_V res) none := by
  refine Ctr.of (cc := cX8_openIf) (maxL := 3) (own := RX8) (by decide +kernel) rfl rfl (Nat.le_of_ble_eq_true rfl) ?_
  intro p e s m below meth c A ls hx hb hr hml hown hts hlk hK hE hA hP hD hS hl
  have hl : lv_has ls 3 [(0, .ref (ad 100)), (1, .int a1)] := hl
  unfold f_Model_openIf at hM
  refine lv_aload_n hx hb dX8_openIf_0 rfl (lv_at hl 0 rfl) ?_
  refine va_get (D := D) (ci := 8) (v := .ref (ad 108)) (C := RX8) (T := TX8) (N := 48) hx hb hts layX8 hown hK hP 0 rfl rfl 17 (by decide) (hts _ (inA q995)) (fun _ h9 => h9) rfl dX8_openIf_1 ?_
  refine lv_iload_n hx hb dX8_openIf_4 rfl (lv_at hl 1 rfl) ?_
  obtain ⟨b1, hM⟩ := gd_use hM
  refine va_iald hx hb hK hP 1 0 rfl rfl b1 dX8_openIf_5 ?_
  refine lv_bipush (v := 11) hx hb dX8_openIf_6 (by decide) ?_
  refine lv_icmp_ne (tgt := 25) hx hb dX8_openIf_8 (by decide) (fun c2 => ?_) (fun c2 => ?_)
  · replace hM := if_f c2 hM
    refine lv_aload_n hx hb dX8_openIf_25 rfl (lv_at hl 0 rfl) ?_
    refine va_get (D := D) (ci := 8) (v := .ref (ad 114)) (C := RX8) (T := TX8) (N := 48) hx hb hts layX8 hown hK hP 0 rfl rfl 23 (by decide) (hts _ (inA q1001)) (fun _ h9 => h9) rfl dX8_openIf_26 ?_
    refine lv_iload_n hx hb dX8_openIf_29 rfl (lv_at hl 1 rfl) ?_
    obtain ⟨b3, hM⟩ := gd_use hM
    refine va_iald hx hb hK hP 7 0 rfl rfl b3 dX8_openIf_30 ?_
    refine lv_topi (fun x4 ex4 => ?_)
    replace hM := nm_use ex4 hM
    refine lv_istore_n (lv' := [(2, .int x4), (0, .ref (ad 100)), (1, .int a1)]) hx hb dX8_openIf_31 rfl hl (by decide) rfl (fun ls hl => ?_)
    refine lv_aload_n hx hb dX8_openIf_32 rfl (lv_at hl 1 rfl) ?_
    refine lv_iconst (v := 4) hx hb dX8_openIf_33 (by decide) ?_
    refine lv_aload_n hx hb dX8_openIf_34 rfl (lv_at hl 1 rfl) ?_
    refine va_get (D := D) (ci := 8) (v := .ref (ad 114)) (C := RX8) (T := TX8) (N := 48) hx hb hts layX8 hown hK hP 0 rfl rfl 23 (by decide) (hts _ (inA q1001)) (fun _ h9 => h9) rfl dX8_openIf_35 ?_
    refine lv_iload_n hx hb dX8_openIf_38 rfl (lv_at hl 0 rfl) ?_
    obtain ⟨b5, hM⟩ := gd_use hM
    refine va_iald hx hb hK hP 7 0 rfl rfl b5 dX8_openIf_39 ?_
    obtain ⟨r6, hcr6, hM⟩ := ob_use hM
    refine cl_V (As := [.int 4, .int (o_T.2.2.2.2.2.2.2.2 x4.toNatClampNeg)]) (rest := []) (wM_TI cI ad o_X o_L o_N o_T o_U o_O o_E o_Q o_V r6) [] ⟨hx, hb, hml, hown, hts⟩ (c_Model_item l D cI sd ad o_C o_X o_L o_N o_T o_U o_O o_E o_Q o_V o_I 4 (o_T.2.2.2.2.2.2.2.2 x4.toNatClampNeg) r6 hcr6) (cwV2 hts q1512 mvX8_item rfl rfl ⟨(Nat.le_of_ble_eq_true rfl), (Nat.le_of_ble_eq_true rfl)⟩) hK hE hA hP hD hS 0 (T := TX8) (N := 48) (ci := 8) rfl rfl [0, 8, 9] rfl (by decide) rfl rfl rfl rfl rfl rfl hl.1 (Nat.le_of_ble_eq_true rfl) dX8_openIf_40 ⟨Nat.zero_le _, Nat.zero_le _⟩ (fun H locs hP hD hS => ?_)
    refine lv_aload_n hx hb dX8_openIf_43 rfl (lv_at hl 1 rfl) ?_
    refine lv_iconst (v := 1) hx hb dX8_openIf_44 (by decide) ?_
    refine lv_iload_n hx hb dX8_openIf_45 rfl (lv_at hl 0 rfl) ?_
    obtain ⟨r7, hcr7, hM⟩ := ob_use hM
    refine cl_V (As := [.int 1, .int x4]) (rest := []) (wM_TI cI ad o_X o_L o_N o_T o_U o_O o_E o_Q o_V r7) [] ⟨hx, hb, hml, hown, hts⟩ (c_Model_item l D cI sd ad o_C o_X o_L o_N o_T o_U o_O o_E o_Q o_V r6 1 x4 r7 hcr7) (cwV2 hts q1512 mvX8_item rfl rfl ⟨(Nat.le_of_ble_eq_true rfl), (Nat.le_of_ble_eq_true rfl)⟩) hK hE hA hP hD hS 0 (T := TX8) (N := 48) (ci := 8) rfl rfl [0, 8, 9] rfl (by decide) rfl rfl rfl rfl rfl rfl hl.1 (Nat.le_of_ble_eq_true rfl) dX8_openIf_46 ⟨Nat.zero_le _, Nat.zero_le _⟩ (fun H locs hP hD hS => ?_)
    refine lv_aload_n hx hb dX8_openIf_49 rfl (lv_at hl 1 rfl) ?_
    refine lv_iconst (v := 0) hx hb dX8_openIf_50 (by decide) ?_
    refine lv_bipush (v := 17) hx hb dX8_openIf_51 (by decide) ?_
    obtain ⟨r8, hcr8, hM⟩ := ob_use hM
    refine cl_V (As := [.int 0, .int 17]) (rest := []) (wM_TI cI ad o_X o_L o_N o_T o_U o_O o_E o_Q o_V r8) [] ⟨hx, hb, hml, hown, hts⟩ (c_Model_item l D cI sd ad o_C o_X o_L o_N o_T o_U o_O o_E o_Q o_V r7 0 17 r8 hcr8) (cwV2 hts q1512 mvX8_item rfl rfl ⟨(Nat.le_of_ble_eq_true rfl), (Nat.le_of_ble_eq_true rfl)⟩) hK hE hA hP hD hS 0 (T := TX8) (N := 48) (ci := 8) rfl rfl [0, 8, 9] rfl (by decide) rfl rfl rfl rfl rfl rfl hl.1 (Nat.le_of_ble_eq_true rfl) dX8_openIf_53 ⟨Nat.zero_le _, Nat.zero_le _⟩ (fun H locs hP hD hS => ?_)
    refine lv_aload_n hx hb dX8_openIf_56 rfl (lv_at hl 1 rfl) ?_
    refine lv_iconst (v := 1) hx hb dX8_openIf_57 (by decide) ?_
    refine lv_iload_n hx hb dX8_openIf_58 rfl (lv_at hl 2 rfl) ?_
    obtain ⟨r9, hcr9, hM⟩ := ob_use hM
    refine cl_V (As := [.int 1, .int a1]) (rest := []) (wM_TI cI ad o_X o_L o_N o_T o_U o_O o_E o_Q o_V r9) [] ⟨hx, hb, hml, hown, hts⟩ (c_Model_item l D cI sd ad o_C o_X o_L o_N o_T o_U o_O o_E o_Q o_V r8 1 a1 r9 hcr9) (cwV2 hts q1512 mvX8_item rfl rfl ⟨(Nat.le_of_ble_eq_true rfl), (Nat.le_of_ble_eq_true rfl)⟩) hK hE hA hP hD hS 0 (T := TX8) (N := 48) (ci := 8) rfl rfl [0, 8, 9] rfl (by decide) rfl rfl rfl rfl rfl rfl hl.1 (Nat.le_of_ble_eq_true rfl) dX8_openIf_59 ⟨Nat.zero_le _, Nat.zero_le _⟩ (fun H locs hP hD hS => ?_)
    refine lv_aload_n hx hb dX8_openIf_62 rfl (lv_at hl 1 rfl) ?_
    refine lv_iconst (v := 0) hx hb dX8_openIf_63 (by decide) ?_
    refine lv_bipush (v := 18) hx hb dX8_openIf_64 (by decide) ?_
    obtain ⟨r10, hcr10, hM⟩ := ob_use hM
    refine cl_V (As := [.int 0, .int 18]) (rest := []) (wM_TI cI ad o_X o_L o_N o_T o_U o_O o_E o_Q o_V r10) [] ⟨hx, hb, hml, hown, hts⟩ (c_Model_item l D cI sd ad o_C o_X o_L o_N o_T o_U o_O o_E o_Q o_V r9 0 18 r10 hcr10) (cwV2 hts q1512 mvX8_item rfl rfl ⟨(Nat.le_of_ble_eq_true rfl), (Nat.le_of_ble_eq_true rfl)⟩) hK hE hA hP hD hS 0 (T := TX8) (N := 48) (ci := 8) rfl rfl [0, 8, 9] rfl (by decide) rfl rfl rfl rfl rfl rfl hl.1 (Nat.le_of_ble_eq_true rfl) dX8_openIf_66 ⟨Nat.zero_le _, Nat.zero_le _⟩ (fun H locs hP hD hS => ?_)
    cases hM
    exact rt_v hx hb hr hlk hP hD hS rfl dX8_openIf_69
  · replace hM := if_t c2 hM
    refine lv_aload_n hx hb dX8_openIf_11 rfl (lv_at hl 0 rfl) ?_
    refine lv_iconst (v := 1) hx hb dX8_openIf_12 (by decide) ?_
    refine lv_iload_n hx hb dX8_openIf_13 rfl (lv_at hl 1 rfl) ?_
    obtain ⟨r11, hcr11, hM⟩ := ob_use hM
    refine cl_V (As := [.int 1, .int a1]) (rest := []) (wM_TI cI ad o_X o_L o_N o_T o_U o_O o_E o_Q o_V r11) [] ⟨hx, hb, hml, hown, hts⟩ (c_Model_item l D cI sd ad o_C o_X o_L o_N o_T o_U o_O o_E o_Q o_V o_I 1 a1 r11 hcr11) (cwV2 hts q1512 mvX8_item rfl rfl ⟨(Nat.le_of_ble_eq_true rfl), (Nat.le_of_ble_eq_true rfl)⟩) hK hE hA hP hD hS 0 (T := TX8) (N := 48) (ci := 8) rfl rfl [0, 8, 9] rfl (by decide) rfl rfl rfl rfl rfl rfl hl.1 (Nat.le_of_ble_eq_true rfl) dX8_openIf_14 ⟨Nat.zero_le _, Nat.zero_le _⟩ (fun H locs hP hD hS => ?_)
    refine lv_aload_n hx hb dX8_openIf_17 rfl (lv_at hl 0 rfl) ?_
    refine lv_iconst (v := 0) hx hb dX8_openIf_18 (by decide) ?_
    refine lv_bipush (v := 19) hx hb dX8_openIf_19 (by decide) ?_
    obtain ⟨r12, hcr12, hM⟩ := ob_use hM
    refine cl_V (As := [.int 0, .int 19]) (rest := []) (wM_TI cI ad o_X o_L o_N o_T o_U o_O o_E o_Q o_V r12) [] ⟨hx, hb, hml, hown, hts⟩ (c_Model_item l D cI sd ad o_C o_X o_L o_N o_T o_U o_O o_E o_Q o_V r11 0 19 r12 hcr12) (cwV2 hts q1512 mvX8_item rfl rfl ⟨(Nat.le_of_ble_eq_true rfl), (Nat.le_of_ble_eq_true rfl)⟩) hK hE hA hP hD hS 0 (T := TX8) (N := 48) (ci := 8) rfl rfl [0, 8, 9] rfl (by decide) rfl rfl rfl rfl rfl rfl hl.1 (Nat.le_of_ble_eq_true rfl) dX8_openIf_21 ⟨Nat.zero_le _, Nat.zero_le _⟩ (fun H locs hP hD hS => ?_)
    cases hM
    exact rt_v hx hb hr hlk hP hD hS rfl dX8_openIf_24

set_option maxHeartbeats 4000000 in
set_option maxRecDepth 100000 in
theorem c_Model_openCase (l : Launch) (D : va_G) (cI : ClassId) (sd : Nat → Nat) (ad : Nat → Nat) (o_C : S_MC) (o_X : S_MX) (o_L : S_ML) (o_N : S_MN) (o_U : S_MU) (o_O : S_MO) (o_E : S_ME) (o_Q : S_MQ) (o_V : S_MV) (o_T : S_MT) (o_I : S_MI) (a1 : Int32) (res : S_MI) (hM : f_Model_openCase o_T o_I a1 = some res) : Ctr l D cI sd yX8_openCase (wsM yX8_openCase cX8_openCase 2 (Option.none : Option Jvm.ClassFile.FieldType)) { frames := 1, cells := 0, slots := 0, locals := 22 } [.ref (ad 100), .int a1] (wM_TI cI ad o_X o_L o_N o_T o_U o_O o_E o_Q o_V o_I) (wM_TI cI ad o_X o_L o_N o_T o_U o_O o_E o_Q o_V res) none := by
  refine Ctr.of (cc := cX8_openCase) (maxL := 2) (own := RX8) (by decide +kernel) rfl rfl (Nat.le_of_ble_eq_true rfl) ?_
  intro p e s m below meth c A ls hx hb hr hml hown hts hlk hK hE hA hP hD hS hl
  have hl : lv_has ls 2 [(0, .ref (ad 100)), (1, .int a1)] := hl
  unfold f_Model_openCase at hM
  refine lv_aload_n hx hb dX8_openCase_0 rfl (lv_at hl 0 rfl) ?_
  refine va_get (D := D) (ci := 8) (v := .ref (ad 108)) (C := RX8) (T := TX8) (N := 48) hx hb hts layX8 hown hK hP 0 rfl rfl 17 (by decide) (hts _ (inA q995)) (fun _ h9 => h9) rfl dX8_openCase_1 ?_
  refine lv_iload_n hx hb dX8_openCase_4 rfl (lv_at hl 1 rfl) ?_
  obtain ⟨b1, hM⟩ := gd_use hM
  refine va_iald hx hb hK hP 1 0 rfl rfl b1 dX8_openCase_5 ?_
  refine lv_bipush (v := 11) hx hb dX8_openCase_6 (by decide) ?_
  refine lv_icmp_ne (tgt := 25) hx hb dX8_openCase_8 (by decide) (fun c2 => ?_) (fun c2 => ?_)
  · replace hM := if_f c2 hM
    refine lv_aload_n hx hb dX8_openCase_25 rfl (lv_at hl 0 rfl) ?_
    refine lv_iconst (v := 5) hx hb dX8_openCase_26 (by decide) ?_
    refine lv_aload_n hx hb dX8_openCase_27 rfl (lv_at hl 0 rfl) ?_
    refine va_get (D := D) (ci := 8) (v := .ref (ad 114)) (C := RX8) (T := TX8) (N := 48) hx hb hts layX8 hown hK hP 0 rfl rfl 23 (by decide) (hts _ (inA q1001)) (fun _ h9 => h9) rfl dX8_openCase_28 ?_
    refine lv_iload_n hx hb dX8_openCase_31 rfl (lv_at hl 1 rfl) ?_
    obtain ⟨b3, hM⟩ := gd_use hM
    refine va_iald hx hb hK hP 7 0 rfl rfl b3 dX8_openCase_32 ?_
    obtain ⟨r4, hcr4, hM⟩ := ob_use hM
    refine cl_V (As := [.int 5, .int (o_T.2.2.2.2.2.2.2.2 a1.toNatClampNeg)]) (rest := []) (wM_TI cI ad o_X o_L o_N o_T o_U o_O o_E o_Q o_V r4) [] ⟨hx, hb, hml, hown, hts⟩ (c_Model_item l D cI sd ad o_C o_X o_L o_N o_T o_U o_O o_E o_Q o_V o_I 5 (o_T.2.2.2.2.2.2.2.2 a1.toNatClampNeg) r4 hcr4) (cwV2 hts q1512 mvX8_item rfl rfl ⟨(Nat.le_of_ble_eq_true rfl), (Nat.le_of_ble_eq_true rfl)⟩) hK hE hA hP hD hS 0 (T := TX8) (N := 48) (ci := 8) rfl rfl [0, 8, 9] rfl (by decide) rfl rfl rfl rfl rfl rfl hl.1 (Nat.le_of_ble_eq_true rfl) dX8_openCase_33 ⟨Nat.zero_le _, Nat.zero_le _⟩ (fun H locs hP hD hS => ?_)
    refine lv_aload_n hx hb dX8_openCase_36 rfl (lv_at hl 0 rfl) ?_
    refine lv_iconst (v := 1) hx hb dX8_openCase_37 (by decide) ?_
    refine lv_iload_n hx hb dX8_openCase_38 rfl (lv_at hl 1 rfl) ?_
    obtain ⟨r5, hcr5, hM⟩ := ob_use hM
    refine cl_V (As := [.int 1, .int a1]) (rest := []) (wM_TI cI ad o_X o_L o_N o_T o_U o_O o_E o_Q o_V r5) [] ⟨hx, hb, hml, hown, hts⟩ (c_Model_item l D cI sd ad o_C o_X o_L o_N o_T o_U o_O o_E o_Q o_V r4 1 a1 r5 hcr5) (cwV2 hts q1512 mvX8_item rfl rfl ⟨(Nat.le_of_ble_eq_true rfl), (Nat.le_of_ble_eq_true rfl)⟩) hK hE hA hP hD hS 0 (T := TX8) (N := 48) (ci := 8) rfl rfl [0, 8, 9] rfl (by decide) rfl rfl rfl rfl rfl rfl hl.1 (Nat.le_of_ble_eq_true rfl) dX8_openCase_39 ⟨Nat.zero_le _, Nat.zero_le _⟩ (fun H locs hP hD hS => ?_)
    cases hM
    exact rt_v hx hb hr hlk hP hD hS rfl dX8_openCase_42
  · replace hM := if_t c2 hM
    refine lv_aload_n hx hb dX8_openCase_11 rfl (lv_at hl 0 rfl) ?_
    refine lv_iconst (v := 1) hx hb dX8_openCase_12 (by decide) ?_
    refine lv_iload_n hx hb dX8_openCase_13 rfl (lv_at hl 1 rfl) ?_
    obtain ⟨r6, hcr6, hM⟩ := ob_use hM
    refine cl_V (As := [.int 1, .int a1]) (rest := []) (wM_TI cI ad o_X o_L o_N o_T o_U o_O o_E o_Q o_V r6) [] ⟨hx, hb, hml, hown, hts⟩ (c_Model_item l D cI sd ad o_C o_X o_L o_N o_T o_U o_O o_E o_Q o_V o_I 1 a1 r6 hcr6) (cwV2 hts q1512 mvX8_item rfl rfl ⟨(Nat.le_of_ble_eq_true rfl), (Nat.le_of_ble_eq_true rfl)⟩) hK hE hA hP hD hS 0 (T := TX8) (N := 48) (ci := 8) rfl rfl [0, 8, 9] rfl (by decide) rfl rfl rfl rfl rfl rfl hl.1 (Nat.le_of_ble_eq_true rfl) dX8_openCase_14 ⟨Nat.zero_le _, Nat.zero_le _⟩ (fun H locs hP hD hS => ?_)
    refine lv_aload_n hx hb dX8_openCase_17 rfl (lv_at hl 0 rfl) ?_
    refine lv_iconst (v := 0) hx hb dX8_openCase_18 (by decide) ?_
    refine lv_bipush (v := 19) hx hb dX8_openCase_19 (by decide) ?_
    obtain ⟨r7, hcr7, hM⟩ := ob_use hM
    refine cl_V (As := [.int 0, .int 19]) (rest := []) (wM_TI cI ad o_X o_L o_N o_T o_U o_O o_E o_Q o_V r7) [] ⟨hx, hb, hml, hown, hts⟩ (c_Model_item l D cI sd ad o_C o_X o_L o_N o_T o_U o_O o_E o_Q o_V r6 0 19 r7 hcr7) (cwV2 hts q1512 mvX8_item rfl rfl ⟨(Nat.le_of_ble_eq_true rfl), (Nat.le_of_ble_eq_true rfl)⟩) hK hE hA hP hD hS 0 (T := TX8) (N := 48) (ci := 8) rfl rfl [0, 8, 9] rfl (by decide) rfl rfl rfl rfl rfl rfl hl.1 (Nat.le_of_ble_eq_true rfl) dX8_openCase_21 ⟨Nat.zero_le _, Nat.zero_le _⟩ (fun H locs hP hD hS => ?_)
    cases hM
    exact rt_v hx hb hr hlk hP hD hS rfl dX8_openCase_24

set_option maxHeartbeats 4000000 in
set_option maxRecDepth 100000 in
theorem c_Model_openRow (l : Launch) (D : va_G) (cI : ClassId) (sd : Nat → Nat) (ad : Nat → Nat) (o_C : S_MC) (o_X : S_MX) (o_L : S_ML) (o_N : S_MN) (o_U : S_MU) (o_O : S_MO) (o_E : S_ME) (o_Q : S_MQ) (o_V : S_MV) (o_T : S_MT) (o_I : S_MI) (a1 : Int32) (a2 : Int32) (res : S_MI) (hM : f_Model_openRow o_T o_I a1 a2 = some res) : Ctr l D cI sd yX8_openRow (wsM yX8_openRow cX8_openRow 4 (Option.none : Option Jvm.ClassFile.FieldType)) { frames := 1, cells := 0, slots := 0, locals := 22 } [.ref (ad 100), .int a1, .int a2] (wM_TI cI ad o_X o_L o_N o_T o_U o_O o_E o_Q o_V o_I) (wM_TI cI ad o_X o_L o_N o_T o_U o_O o_E o_Q o_V res) none := by
  refine Ctr.of (cc := cX8_openRow) (maxL := 4) (own := RX8) (by decide +kernel) rfl rfl (Nat.le_of_ble_eq_true rfl) ?_
  intro p e s m below meth c A ls hx hb hr hml hown hts hlk hK hE hA hP hD hS hl
  have hl : lv_has ls 4 [(0, .ref (ad 100)), (1, .int a1), (2, .int a2)] := hl
  unfold f_Model_openRow at hM
  refine lv_aload_n hx hb dX8_openRow_0 rfl (lv_at hl 0 rfl) ?_
  refine va_get (D := D) (ci := 8) (v := .ref (ad 114)) (C := RX8) (T := TX8) (N := 48) hx hb hts layX8 hown hK hP 0 rfl rfl 23 (by decide) (hts _ (inA q1001)) (fun _ h9 => h9) rfl dX8_openRow_1 ?_
  refine lv_iload_n hx hb dX8_openRow_4 rfl (lv_at hl 2 rfl) ?_
  obtain ⟨b1, hM⟩ := gd_use hM
  refine va_iald hx hb hK hP 7 0 rfl rfl b1 dX8_openRow_5 ?_
  refine lv_topi (fun x2 ex2 => ?_)
  replace hM := nm_use ex2 hM
  refine lv_istore_n (lv' := [(3, .int x2), (0, .ref (ad 100)), (1, .int a1), (2, .int a2)]) hx hb dX8_openRow_6 rfl hl (by decide) rfl (fun ls hl => ?_)
  refine lv_iload_n hx hb dX8_openRow_7 rfl (lv_at hl 0 rfl) ?_
  refine lv_iconst (v := (-1)) hx hb dX8_openRow_8 (by decide) ?_
  refine lv_icmp_eq (tgt := 26) hx hb dX8_openRow_9 (by decide) (fun c3 => ?_) (fun c3 => ?_)
  · replace hM := if_t c3 hM
    refine lv_iload_n hx hb dX8_openRow_26 rfl (lv_at hl 0 rfl) ?_
    refine lv_iconst (v := (-1)) hx hb dX8_openRow_27 (by decide) ?_
    refine lv_icmp_eq (tgt := 64) hx hb dX8_openRow_28 (by decide) (fun c4 => ?_) (fun c4 => ?_)
    · replace hM := if_t c4 hM
      refine lv_iload_n hx hb dX8_openRow_64 rfl (lv_at hl 0 rfl) ?_
      refine lv_iconst (v := (-1)) hx hb dX8_openRow_65 (by decide) ?_
      refine lv_icmp_eq (tgt := 82) hx hb dX8_openRow_66 (by decide) (fun c5 => ?_) (fun c5 => ?_)
      · replace hM := if_t c5 hM
        refine lv_aload_n hx hb dX8_openRow_82 rfl (lv_at hl 1 rfl) ?_
        refine lv_iconst (v := 1) hx hb dX8_openRow_83 (by decide) ?_
        refine lv_iload_n hx hb dX8_openRow_84 rfl (lv_at hl 3 rfl) ?_
        obtain ⟨r6, hcr6, hM⟩ := ob_use hM
        refine cl_V (As := [.int 1, .int a2]) (rest := []) (wM_TI cI ad o_X o_L o_N o_T o_U o_O o_E o_Q o_V r6) [] ⟨hx, hb, hml, hown, hts⟩ (c_Model_item l D cI sd ad o_C o_X o_L o_N o_T o_U o_O o_E o_Q o_V o_I 1 a2 r6 hcr6) (cwV2 hts q1512 mvX8_item rfl rfl ⟨(Nat.le_of_ble_eq_true rfl), (Nat.le_of_ble_eq_true rfl)⟩) hK hE hA hP hD hS 0 (T := TX8) (N := 48) (ci := 8) rfl rfl [0, 8, 9] rfl (by decide) rfl rfl rfl rfl rfl rfl hl.1 (Nat.le_of_ble_eq_true rfl) dX8_openRow_85 ⟨Nat.zero_le _, Nat.zero_le _⟩ (fun H locs hP hD hS => ?_)
        cases hM
        exact rt_v hx hb hr hlk hP hD hS rfl dX8_openRow_88
      · replace hM := if_f c5 hM
        refine lv_aload_n hx hb dX8_openRow_69 rfl (lv_at hl 1 rfl) ?_
        refine lv_iload_n hx hb dX8_openRow_70 rfl (lv_at hl 2 rfl) ?_
        refine lv_iload_n hx hb dX8_openRow_71 rfl (lv_at hl 0 rfl) ?_
        obtain ⟨r7, hcr7, hM⟩ := ob_use hM
        refine cl_V (As := [.int a1, .int x2]) (rest := []) (wM_TI cI ad o_X o_L o_N o_T o_U o_O o_E o_Q o_V r7) [] ⟨hx, hb, hml, hown, hts⟩ (c_Model_item l D cI sd ad o_C o_X o_L o_N o_T o_U o_O o_E o_Q o_V o_I a1 x2 r7 hcr7) (cwV2 hts q1512 mvX8_item rfl rfl ⟨(Nat.le_of_ble_eq_true rfl), (Nat.le_of_ble_eq_true rfl)⟩) hK hE hA hP hD hS 0 (T := TX8) (N := 48) (ci := 8) rfl rfl [0, 8, 9] rfl (by decide) rfl rfl rfl rfl rfl rfl hl.1 (Nat.le_of_ble_eq_true rfl) dX8_openRow_72 ⟨Nat.zero_le _, Nat.zero_le _⟩ (fun H locs hP hD hS => ?_)
        refine lv_aload_n hx hb dX8_openRow_75 rfl (lv_at hl 1 rfl) ?_
        refine lv_iconst (v := 0) hx hb dX8_openRow_76 (by decide) ?_
        refine lv_bipush (v := 59) hx hb dX8_openRow_77 (by decide) ?_
        obtain ⟨r8, hcr8, hM⟩ := ob_use hM
        refine cl_V (As := [.int 0, .int 59]) (rest := []) (wM_TI cI ad o_X o_L o_N o_T o_U o_O o_E o_Q o_V r8) [] ⟨hx, hb, hml, hown, hts⟩ (c_Model_item l D cI sd ad o_C o_X o_L o_N o_T o_U o_O o_E o_Q o_V r7 0 59 r8 hcr8) (cwV2 hts q1512 mvX8_item rfl rfl ⟨(Nat.le_of_ble_eq_true rfl), (Nat.le_of_ble_eq_true rfl)⟩) hK hE hA hP hD hS 0 (T := TX8) (N := 48) (ci := 8) rfl rfl [0, 8, 9] rfl (by decide) rfl rfl rfl rfl rfl rfl hl.1 (Nat.le_of_ble_eq_true rfl) dX8_openRow_79 ⟨Nat.zero_le _, Nat.zero_le _⟩ (fun H locs hP hD hS => ?_)
        refine lv_aload_n hx hb dX8_openRow_82 rfl (lv_at hl 1 rfl) ?_
        refine lv_iconst (v := 1) hx hb dX8_openRow_83 (by decide) ?_
        refine lv_iload_n hx hb dX8_openRow_84 rfl (lv_at hl 3 rfl) ?_
        obtain ⟨r9, hcr9, hM⟩ := ob_use hM
        refine cl_V (As := [.int 1, .int a2]) (rest := []) (wM_TI cI ad o_X o_L o_N o_T o_U o_O o_E o_Q o_V r9) [] ⟨hx, hb, hml, hown, hts⟩ (c_Model_item l D cI sd ad o_C o_X o_L o_N o_T o_U o_O o_E o_Q o_V r8 1 a2 r9 hcr9) (cwV2 hts q1512 mvX8_item rfl rfl ⟨(Nat.le_of_ble_eq_true rfl), (Nat.le_of_ble_eq_true rfl)⟩) hK hE hA hP hD hS 0 (T := TX8) (N := 48) (ci := 8) rfl rfl [0, 8, 9] rfl (by decide) rfl rfl rfl rfl rfl rfl hl.1 (Nat.le_of_ble_eq_true rfl) dX8_openRow_85 ⟨Nat.zero_le _, Nat.zero_le _⟩ (fun H locs hP hD hS => ?_)
        cases hM
        exact rt_v hx hb hr hlk hP hD hS rfl dX8_openRow_88
    · replace hM := if_f c4 hM
      refine lv_iload_n hx hb dX8_openRow_31 rfl (lv_at hl 2 rfl) ?_
      refine lv_bipush (v := 6) hx hb dX8_openRow_32 (by decide) ?_
      refine lv_icmp_ne (tgt := 64) hx hb dX8_openRow_34 (by decide) (fun c10 => ?_) (fun c10 => ?_)
      · replace hM := if_f c10 hM
        refine lv_iload_n hx hb dX8_openRow_64 rfl (lv_at hl 0 rfl) ?_
        refine lv_iconst (v := (-1)) hx hb dX8_openRow_65 (by decide) ?_
        refine lv_icmp_eq (tgt := 82) hx hb dX8_openRow_66 (by decide) (fun c11 => ?_) (fun c11 => ?_)
        · replace hM := if_t c11 hM
          refine lv_aload_n hx hb dX8_openRow_82 rfl (lv_at hl 1 rfl) ?_
          refine lv_iconst (v := 1) hx hb dX8_openRow_83 (by decide) ?_
          refine lv_iload_n hx hb dX8_openRow_84 rfl (lv_at hl 3 rfl) ?_
          obtain ⟨r12, hcr12, hM⟩ := ob_use hM
          refine cl_V (As := [.int 1, .int a2]) (rest := []) (wM_TI cI ad o_X o_L o_N o_T o_U o_O o_E o_Q o_V r12) [] ⟨hx, hb, hml, hown, hts⟩ (c_Model_item l D cI sd ad o_C o_X o_L o_N o_T o_U o_O o_E o_Q o_V o_I 1 a2 r12 hcr12) (cwV2 hts q1512 mvX8_item rfl rfl ⟨(Nat.le_of_ble_eq_true rfl), (Nat.le_of_ble_eq_true rfl)⟩) hK hE hA hP hD hS 0 (T := TX8) (N := 48) (ci := 8) rfl rfl [0, 8, 9] rfl (by decide) rfl rfl rfl rfl rfl rfl hl.1 (Nat.le_of_ble_eq_true rfl) dX8_openRow_85 ⟨Nat.zero_le _, Nat.zero_le _⟩ (fun H locs hP hD hS => ?_)
          cases hM
          exact rt_v hx hb hr hlk hP hD hS rfl dX8_openRow_88
        · replace hM := if_f c11 hM
          refine lv_aload_n hx hb dX8_openRow_69 rfl (lv_at hl 1 rfl) ?_
          refine lv_iload_n hx hb dX8_openRow_70 rfl (lv_at hl 2 rfl) ?_
          refine lv_iload_n hx hb dX8_openRow_71 rfl (lv_at hl 0 rfl) ?_
          obtain ⟨r13, hcr13, hM⟩ := ob_use hM
          refine cl_V (As := [.int a1, .int x2]) (rest := []) (wM_TI cI ad o_X o_L o_N o_T o_U o_O o_E o_Q o_V r13) [] ⟨hx, hb, hml, hown, hts⟩ (c_Model_item l D cI sd ad o_C o_X o_L o_N o_T o_U o_O o_E o_Q o_V o_I a1 x2 r13 hcr13) (cwV2 hts q1512 mvX8_item rfl rfl ⟨(Nat.le_of_ble_eq_true rfl), (Nat.le_of_ble_eq_true rfl)⟩) hK hE hA hP hD hS 0 (T := TX8) (N := 48) (ci := 8) rfl rfl [0, 8, 9] rfl (by decide) rfl rfl rfl rfl rfl rfl hl.1 (Nat.le_of_ble_eq_true rfl) dX8_openRow_72 ⟨Nat.zero_le _, Nat.zero_le _⟩ (fun H locs hP hD hS => ?_)
          refine lv_aload_n hx hb dX8_openRow_75 rfl (lv_at hl 1 rfl) ?_
          refine lv_iconst (v := 0) hx hb dX8_openRow_76 (by decide) ?_
          refine lv_bipush (v := 59) hx hb dX8_openRow_77 (by decide) ?_
          obtain ⟨r14, hcr14, hM⟩ := ob_use hM
          refine cl_V (As := [.int 0, .int 59]) (rest := []) (wM_TI cI ad o_X o_L o_N o_T o_U o_O o_E o_Q o_V r14) [] ⟨hx, hb, hml, hown, hts⟩ (c_Model_item l D cI sd ad o_C o_X o_L o_N o_T o_U o_O o_E o_Q o_V r13 0 59 r14 hcr14) (cwV2 hts q1512 mvX8_item rfl rfl ⟨(Nat.le_of_ble_eq_true rfl), (Nat.le_of_ble_eq_true rfl)⟩) hK hE hA hP hD hS 0 (T := TX8) (N := 48) (ci := 8) rfl rfl [0, 8, 9] rfl (by decide) rfl rfl rfl rfl rfl rfl hl.1 (Nat.le_of_ble_eq_true rfl) dX8_openRow_79 ⟨Nat.zero_le _, Nat.zero_le _⟩ (fun H locs hP hD hS => ?_)
          refine lv_aload_n hx hb dX8_openRow_82 rfl (lv_at hl 1 rfl) ?_
          refine lv_iconst (v := 1) hx hb dX8_openRow_83 (by decide) ?_
          refine lv_iload_n hx hb dX8_openRow_84 rfl (lv_at hl 3 rfl) ?_
          obtain ⟨r15, hcr15, hM⟩ := ob_use hM
          refine cl_V (As := [.int 1, .int a2]) (rest := []) (wM_TI cI ad o_X o_L o_N o_T o_U o_O o_E o_Q o_V r15) [] ⟨hx, hb, hml, hown, hts⟩ (c_Model_item l D cI sd ad o_C o_X o_L o_N o_T o_U o_O o_E o_Q o_V r14 1 a2 r15 hcr15) (cwV2 hts q1512 mvX8_item rfl rfl ⟨(Nat.le_of_ble_eq_true rfl), (Nat.le_of_ble_eq_true rfl)⟩) hK hE hA hP hD hS 0 (T := TX8) (N := 48) (ci := 8) rfl rfl [0, 8, 9] rfl (by decide) rfl rfl rfl rfl rfl rfl hl.1 (Nat.le_of_ble_eq_true rfl) dX8_openRow_85 ⟨Nat.zero_le _, Nat.zero_le _⟩ (fun H locs hP hD hS => ?_)
          cases hM
          exact rt_v hx hb hr hlk hP hD hS rfl dX8_openRow_88
      · replace hM := if_t c10 hM
        refine lv_aload_n hx hb dX8_openRow_37 rfl (lv_at hl 1 rfl) ?_
        refine va_get (D := D) (ci := 8) (v := .ref (ad 108)) (C := RX8) (T := TX8) (N := 48) hx hb hts layX8 hown hK hP 0 rfl rfl 17 (by decide) (hts _ (inA q995)) (fun _ h9 => h9) rfl dX8_openRow_38 ?_
        refine lv_iload_n hx hb dX8_openRow_41 rfl (lv_at hl 0 rfl) ?_
        obtain ⟨b16, hM⟩ := gd_use hM
        refine va_iald hx hb hK hP 1 0 rfl rfl b16 dX8_openRow_42 ?_
        refine lv_bipush (v := 11) hx hb dX8_openRow_43 (by decide) ?_
        refine lv_icmp_ne (tgt := 64) hx hb dX8_openRow_45 (by decide) (fun c17 => ?_) (fun c17 => ?_)
        · replace hM := if_f c17 hM
          refine lv_iload_n hx hb dX8_openRow_64 rfl (lv_at hl 0 rfl) ?_
          refine lv_iconst (v := (-1)) hx hb dX8_openRow_65 (by decide) ?_
          refine lv_icmp_eq (tgt := 82) hx hb dX8_openRow_66 (by decide) (fun c18 => ?_) (fun c18 => ?_)
          · replace hM := if_t c18 hM
            refine lv_aload_n hx hb dX8_openRow_82 rfl (lv_at hl 1 rfl) ?_
            refine lv_iconst (v := 1) hx hb dX8_openRow_83 (by decide) ?_
            refine lv_iload_n hx hb dX8_openRow_84 rfl (lv_at hl 3 rfl) ?_
            obtain ⟨r19, hcr19, hM⟩ := ob_use hM
            refine cl_V (As := [.int 1, .int a2]) (rest := []) (wM_TI cI ad o_X o_L o_N o_T o_U o_O o_E o_Q o_V r19) [] ⟨hx, hb, hml, hown, hts⟩ (c_Model_item l D cI sd ad o_C o_X o_L o_N o_T o_U o_O o_E o_Q o_V o_I 1 a2 r19 hcr19) (cwV2 hts q1512 mvX8_item rfl rfl ⟨(Nat.le_of_ble_eq_true rfl), (Nat.le_of_ble_eq_true rfl)⟩) hK hE hA hP hD hS 0 (T := TX8) (N := 48) (ci := 8) rfl rfl [0, 8, 9] rfl (by decide) rfl rfl rfl rfl rfl rfl hl.1 (Nat.le_of_ble_eq_true rfl) dX8_openRow_85 ⟨Nat.zero_le _, Nat.zero_le _⟩ (fun H locs hP hD hS => ?_)
            cases hM
            exact rt_v hx hb hr hlk hP hD hS rfl dX8_openRow_88
          · replace hM := if_f c18 hM
            refine lv_aload_n hx hb dX8_openRow_69 rfl (lv_at hl 1 rfl) ?_
            refine lv_iload_n hx hb dX8_openRow_70 rfl (lv_at hl 2 rfl) ?_
            refine lv_iload_n hx hb dX8_openRow_71 rfl (lv_at hl 0 rfl) ?_
            obtain ⟨r20, hcr20, hM⟩ := ob_use hM
            refine cl_V (As := [.int a1, .int x2]) (rest := []) (wM_TI cI ad o_X o_L o_N o_T o_U o_O o_E o_Q o_V r20) [] ⟨hx, hb, hml, hown, hts⟩ (c_Model_item l D cI sd ad o_C o_X o_L o_N o_T o_U o_O o_E o_Q o_V o_I a1 x2 r20 hcr20) (cwV2 hts q1512 mvX8_item rfl rfl ⟨(Nat.le_of_ble_eq_true rfl), (Nat.le_of_ble_eq_true rfl)⟩) hK hE hA hP hD hS 0 (T := TX8) (N := 48) (ci := 8) rfl rfl [0, 8, 9] rfl (by decide) rfl rfl rfl rfl rfl rfl hl.1 (Nat.le_of_ble_eq_true rfl) dX8_openRow_72 ⟨Nat.zero_le _, Nat.zero_le _⟩ (fun H locs hP hD hS => ?_)
            refine lv_aload_n hx hb dX8_openRow_75 rfl (lv_at hl 1 rfl) ?_
            refine lv_iconst (v := 0) hx hb dX8_openRow_76 (by decide) ?_
            refine lv_bipush (v := 59) hx hb dX8_openRow_77 (by decide) ?_
            obtain ⟨r21, hcr21, hM⟩ := ob_use hM
            refine cl_V (As := [.int 0, .int 59]) (rest := []) (wM_TI cI ad o_X o_L o_N o_T o_U o_O o_E o_Q o_V r21) [] ⟨hx, hb, hml, hown, hts⟩ (c_Model_item l D cI sd ad o_C o_X o_L o_N o_T o_U o_O o_E o_Q o_V r20 0 59 r21 hcr21) (cwV2 hts q1512 mvX8_item rfl rfl ⟨(Nat.le_of_ble_eq_true rfl), (Nat.le_of_ble_eq_true rfl)⟩) hK hE hA hP hD hS 0 (T := TX8) (N := 48) (ci := 8) rfl rfl [0, 8, 9] rfl (by decide) rfl rfl rfl rfl rfl rfl hl.1 (Nat.le_of_ble_eq_true rfl) dX8_openRow_79 ⟨Nat.zero_le _, Nat.zero_le _⟩ (fun H locs hP hD hS => ?_)
            refine lv_aload_n hx hb dX8_openRow_82 rfl (lv_at hl 1 rfl) ?_
            refine lv_iconst (v := 1) hx hb dX8_openRow_83 (by decide) ?_
            refine lv_iload_n hx hb dX8_openRow_84 rfl (lv_at hl 3 rfl) ?_
            obtain ⟨r22, hcr22, hM⟩ := ob_use hM
            refine cl_V (As := [.int 1, .int a2]) (rest := []) (wM_TI cI ad o_X o_L o_N o_T o_U o_O o_E o_Q o_V r22) [] ⟨hx, hb, hml, hown, hts⟩ (c_Model_item l D cI sd ad o_C o_X o_L o_N o_T o_U o_O o_E o_Q o_V r21 1 a2 r22 hcr22) (cwV2 hts q1512 mvX8_item rfl rfl ⟨(Nat.le_of_ble_eq_true rfl), (Nat.le_of_ble_eq_true rfl)⟩) hK hE hA hP hD hS 0 (T := TX8) (N := 48) (ci := 8) rfl rfl [0, 8, 9] rfl (by decide) rfl rfl rfl rfl rfl rfl hl.1 (Nat.le_of_ble_eq_true rfl) dX8_openRow_85 ⟨Nat.zero_le _, Nat.zero_le _⟩ (fun H locs hP hD hS => ?_)
            cases hM
            exact rt_v hx hb hr hlk hP hD hS rfl dX8_openRow_88
        · replace hM := if_t c17 hM
          refine lv_aload_n hx hb dX8_openRow_48 rfl (lv_at hl 1 rfl) ?_
          refine lv_iconst (v := 1) hx hb dX8_openRow_49 (by decide) ?_
          refine lv_iload_n hx hb dX8_openRow_50 rfl (lv_at hl 0 rfl) ?_
          obtain ⟨r23, hcr23, hM⟩ := ob_use hM
          refine cl_V (As := [.int 1, .int x2]) (rest := []) (wM_TI cI ad o_X o_L o_N o_T o_U o_O o_E o_Q o_V r23) [] ⟨hx, hb, hml, hown, hts⟩ (c_Model_item l D cI sd ad o_C o_X o_L o_N o_T o_U o_O o_E o_Q o_V o_I 1 x2 r23 hcr23) (cwV2 hts q1512 mvX8_item rfl rfl ⟨(Nat.le_of_ble_eq_true rfl), (Nat.le_of_ble_eq_true rfl)⟩) hK hE hA hP hD hS 0 (T := TX8) (N := 48) (ci := 8) rfl rfl [0, 8, 9] rfl (by decide) rfl rfl rfl rfl rfl rfl hl.1 (Nat.le_of_ble_eq_true rfl) dX8_openRow_51 ⟨Nat.zero_le _, Nat.zero_le _⟩ (fun H locs hP hD hS => ?_)
          refine lv_aload_n hx hb dX8_openRow_54 rfl (lv_at hl 1 rfl) ?_
          refine lv_iconst (v := 0) hx hb dX8_openRow_55 (by decide) ?_
          refine lv_bipush (v := 61) hx hb dX8_openRow_56 (by decide) ?_
          obtain ⟨r24, hcr24, hM⟩ := ob_use hM
          refine cl_V (As := [.int 0, .int 61]) (rest := []) (wM_TI cI ad o_X o_L o_N o_T o_U o_O o_E o_Q o_V r24) [] ⟨hx, hb, hml, hown, hts⟩ (c_Model_item l D cI sd ad o_C o_X o_L o_N o_T o_U o_O o_E o_Q o_V r23 0 61 r24 hcr24) (cwV2 hts q1512 mvX8_item rfl rfl ⟨(Nat.le_of_ble_eq_true rfl), (Nat.le_of_ble_eq_true rfl)⟩) hK hE hA hP hD hS 0 (T := TX8) (N := 48) (ci := 8) rfl rfl [0, 8, 9] rfl (by decide) rfl rfl rfl rfl rfl rfl hl.1 (Nat.le_of_ble_eq_true rfl) dX8_openRow_58 ⟨Nat.zero_le _, Nat.zero_le _⟩ (fun H locs hP hD hS => ?_)
          refine lv_goto (tgt := 82) hx hb dX8_openRow_61 (by decide) ?_
          refine lv_aload_n hx hb dX8_openRow_82 rfl (lv_at hl 1 rfl) ?_
          refine lv_iconst (v := 1) hx hb dX8_openRow_83 (by decide) ?_
          refine lv_iload_n hx hb dX8_openRow_84 rfl (lv_at hl 3 rfl) ?_
          obtain ⟨r25, hcr25, hM⟩ := ob_use hM
          refine cl_V (As := [.int 1, .int a2]) (rest := []) (wM_TI cI ad o_X o_L o_N o_T o_U o_O o_E o_Q o_V r25) [] ⟨hx, hb, hml, hown, hts⟩ (c_Model_item l D cI sd ad o_C o_X o_L o_N o_T o_U o_O o_E o_Q o_V r24 1 a2 r25 hcr25) (cwV2 hts q1512 mvX8_item rfl rfl ⟨(Nat.le_of_ble_eq_true rfl), (Nat.le_of_ble_eq_true rfl)⟩) hK hE hA hP hD hS 0 (T := TX8) (N := 48) (ci := 8) rfl rfl [0, 8, 9] rfl (by decide) rfl rfl rfl rfl rfl rfl hl.1 (Nat.le_of_ble_eq_true rfl) dX8_openRow_85 ⟨Nat.zero_le _, Nat.zero_le _⟩ (fun H locs hP hD hS => ?_)
          cases hM
          exact rt_v hx hb hr hlk hP hD hS rfl dX8_openRow_88
  · replace hM := if_f c3 hM
    refine lv_iload_n hx hb dX8_openRow_12 rfl (lv_at hl 2 rfl) ?_
    refine lv_iconst (v := 2) hx hb dX8_openRow_13 (by decide) ?_
    refine lv_icmp_ne (tgt := 26) hx hb dX8_openRow_14 (by decide) (fun c26 => ?_) (fun c26 => ?_)
    · replace hM := if_f c26 hM
      refine lv_iload_n hx hb dX8_openRow_26 rfl (lv_at hl 0 rfl) ?_
      refine lv_iconst (v := (-1)) hx hb dX8_openRow_27 (by decide) ?_
      refine lv_icmp_eq (tgt := 64) hx hb dX8_openRow_28 (by decide) (fun c27 => ?_) (fun c27 => ?_)
      · replace hM := if_t c27 hM
        refine lv_iload_n hx hb dX8_openRow_64 rfl (lv_at hl 0 rfl) ?_
        refine lv_iconst (v := (-1)) hx hb dX8_openRow_65 (by decide) ?_
        refine lv_icmp_eq (tgt := 82) hx hb dX8_openRow_66 (by decide) (fun c28 => ?_) (fun c28 => ?_)
        · replace hM := if_t c28 hM
          refine lv_aload_n hx hb dX8_openRow_82 rfl (lv_at hl 1 rfl) ?_
          refine lv_iconst (v := 1) hx hb dX8_openRow_83 (by decide) ?_
          refine lv_iload_n hx hb dX8_openRow_84 rfl (lv_at hl 3 rfl) ?_
          obtain ⟨r29, hcr29, hM⟩ := ob_use hM
          refine cl_V (As := [.int 1, .int a2]) (rest := []) (wM_TI cI ad o_X o_L o_N o_T o_U o_O o_E o_Q o_V r29) [] ⟨hx, hb, hml, hown, hts⟩ (c_Model_item l D cI sd ad o_C o_X o_L o_N o_T o_U o_O o_E o_Q o_V o_I 1 a2 r29 hcr29) (cwV2 hts q1512 mvX8_item rfl rfl ⟨(Nat.le_of_ble_eq_true rfl), (Nat.le_of_ble_eq_true rfl)⟩) hK hE hA hP hD hS 0 (T := TX8) (N := 48) (ci := 8) rfl rfl [0, 8, 9] rfl (by decide) rfl rfl rfl rfl rfl rfl hl.1 (Nat.le_of_ble_eq_true rfl) dX8_openRow_85 ⟨Nat.zero_le _, Nat.zero_le _⟩ (fun H locs hP hD hS => ?_)
          cases hM
          exact rt_v hx hb hr hlk hP hD hS rfl dX8_openRow_88
        · replace hM := if_f c28 hM
          refine lv_aload_n hx hb dX8_openRow_69 rfl (lv_at hl 1 rfl) ?_
          refine lv_iload_n hx hb dX8_openRow_70 rfl (lv_at hl 2 rfl) ?_
          refine lv_iload_n hx hb dX8_openRow_71 rfl (lv_at hl 0 rfl) ?_
          obtain ⟨r30, hcr30, hM⟩ := ob_use hM
          refine cl_V (As := [.int a1, .int x2]) (rest := []) (wM_TI cI ad o_X o_L o_N o_T o_U o_O o_E o_Q o_V r30) [] ⟨hx, hb, hml, hown, hts⟩ (c_Model_item l D cI sd ad o_C o_X o_L o_N o_T o_U o_O o_E o_Q o_V o_I a1 x2 r30 hcr30) (cwV2 hts q1512 mvX8_item rfl rfl ⟨(Nat.le_of_ble_eq_true rfl), (Nat.le_of_ble_eq_true rfl)⟩) hK hE hA hP hD hS 0 (T := TX8) (N := 48) (ci := 8) rfl rfl [0, 8, 9] rfl (by decide) rfl rfl rfl rfl rfl rfl hl.1 (Nat.le_of_ble_eq_true rfl) dX8_openRow_72 ⟨Nat.zero_le _, Nat.zero_le _⟩ (fun H locs hP hD hS => ?_)
          refine lv_aload_n hx hb dX8_openRow_75 rfl (lv_at hl 1 rfl) ?_
          refine lv_iconst (v := 0) hx hb dX8_openRow_76 (by decide) ?_
          refine lv_bipush (v := 59) hx hb dX8_openRow_77 (by decide) ?_
          obtain ⟨r31, hcr31, hM⟩ := ob_use hM
          refine cl_V (As := [.int 0, .int 59]) (rest := []) (wM_TI cI ad o_X o_L o_N o_T o_U o_O o_E o_Q o_V r31) [] ⟨hx, hb, hml, hown, hts⟩ (c_Model_item l D cI sd ad o_C o_X o_L o_N o_T o_U o_O o_E o_Q o_V r30 0 59 r31 hcr31) (cwV2 hts q1512 mvX8_item rfl rfl ⟨(Nat.le_of_ble_eq_true rfl), (Nat.le_of_ble_eq_true rfl)⟩) hK hE hA hP hD hS 0 (T := TX8) (N := 48) (ci := 8) rfl rfl [0, 8, 9] rfl (by decide) rfl rfl rfl rfl rfl rfl hl.1 (Nat.le_of_ble_eq_true rfl) dX8_openRow_79 ⟨Nat.zero_le _, Nat.zero_le _⟩ (fun H locs hP hD hS => ?_)
          refine lv_aload_n hx hb dX8_openRow_82 rfl (lv_at hl 1 rfl) ?_
          refine lv_iconst (v := 1) hx hb dX8_openRow_83 (by decide) ?_
          refine lv_iload_n hx hb dX8_openRow_84 rfl (lv_at hl 3 rfl) ?_
          obtain ⟨r32, hcr32, hM⟩ := ob_use hM
          refine cl_V (As := [.int 1, .int a2]) (rest := []) (wM_TI cI ad o_X o_L o_N o_T o_U o_O o_E o_Q o_V r32) [] ⟨hx, hb, hml, hown, hts⟩ (c_Model_item l D cI sd ad o_C o_X o_L o_N o_T o_U o_O o_E o_Q o_V r31 1 a2 r32 hcr32) (cwV2 hts q1512 mvX8_item rfl rfl ⟨(Nat.le_of_ble_eq_true rfl), (Nat.le_of_ble_eq_true rfl)⟩) hK hE hA hP hD hS 0 (T := TX8) (N := 48) (ci := 8) rfl rfl [0, 8, 9] rfl (by decide) rfl rfl rfl rfl rfl rfl hl.1 (Nat.le_of_ble_eq_true rfl) dX8_openRow_85 ⟨Nat.zero_le _, Nat.zero_le _⟩ (fun H locs hP hD hS => ?_)
          cases hM
          exact rt_v hx hb hr hlk hP hD hS rfl dX8_openRow_88
      · replace hM := if_f c27 hM
        refine lv_iload_n hx hb dX8_openRow_31 rfl (lv_at hl 2 rfl) ?_
        refine lv_bipush (v := 6) hx hb dX8_openRow_32 (by decide) ?_
        refine lv_icmp_ne (tgt := 64) hx hb dX8_openRow_34 (by decide) (fun c33 => ?_) (fun c33 => ?_)
        · replace hM := if_f c33 hM
          refine lv_iload_n hx hb dX8_openRow_64 rfl (lv_at hl 0 rfl) ?_
          refine lv_iconst (v := (-1)) hx hb dX8_openRow_65 (by decide) ?_
          refine lv_icmp_eq (tgt := 82) hx hb dX8_openRow_66 (by decide) (fun c34 => ?_) (fun c34 => ?_)
          · replace hM := if_t c34 hM
            refine lv_aload_n hx hb dX8_openRow_82 rfl (lv_at hl 1 rfl) ?_
            refine lv_iconst (v := 1) hx hb dX8_openRow_83 (by decide) ?_
            refine lv_iload_n hx hb dX8_openRow_84 rfl (lv_at hl 3 rfl) ?_
            obtain ⟨r35, hcr35, hM⟩ := ob_use hM
            refine cl_V (As := [.int 1, .int a2]) (rest := []) (wM_TI cI ad o_X o_L o_N o_T o_U o_O o_E o_Q o_V r35) [] ⟨hx, hb, hml, hown, hts⟩ (c_Model_item l D cI sd ad o_C o_X o_L o_N o_T o_U o_O o_E o_Q o_V o_I 1 a2 r35 hcr35) (cwV2 hts q1512 mvX8_item rfl rfl ⟨(Nat.le_of_ble_eq_true rfl), (Nat.le_of_ble_eq_true rfl)⟩) hK hE hA hP hD hS 0 (T := TX8) (N := 48) (ci := 8) rfl rfl [0, 8, 9] rfl (by decide) rfl rfl rfl rfl rfl rfl hl.1 (Nat.le_of_ble_eq_true rfl) dX8_openRow_85 ⟨Nat.zero_le _, Nat.zero_le _⟩ (fun H locs hP hD hS => ?_)
            cases hM
            exact rt_v hx hb hr hlk hP hD hS rfl dX8_openRow_88
          · replace hM := if_f c34 hM
            refine lv_aload_n hx hb dX8_openRow_69 rfl (lv_at hl 1 rfl) ?_
            refine lv_iload_n hx hb dX8_openRow_70 rfl (lv_at hl 2 rfl) ?_
            refine lv_iload_n hx hb dX8_openRow_71 rfl (lv_at hl 0 rfl) ?_
            obtain ⟨r36, hcr36, hM⟩ := ob_use hM
            refine cl_V (As := [.int a1, .int x2]) (rest := []) (wM_TI cI ad o_X o_L o_N o_T o_U o_O o_E o_Q o_V r36) [] ⟨hx, hb, hml, hown, hts⟩ (c_Model_item l D cI sd ad o_C o_X o_L o_N o_T o_U o_O o_E o_Q o_V o_I a1 x2 r36 hcr36) (cwV2 hts q1512 mvX8_item rfl rfl ⟨(Nat.le_of_ble_eq_true rfl), (Nat.le_of_ble_eq_true rfl)⟩) hK hE hA hP hD hS 0 (T := TX8) (N := 48) (ci := 8) rfl rfl [0, 8, 9] rfl (by decide) rfl rfl rfl rfl rfl rfl hl.1 (Nat.le_of_ble_eq_true rfl) dX8_openRow_72 ⟨Nat.zero_le _, Nat.zero_le _⟩ (fun H locs hP hD hS => ?_)
            refine lv_aload_n hx hb dX8_openRow_75 rfl (lv_at hl 1 rfl) ?_
            refine lv_iconst (v := 0) hx hb dX8_openRow_76 (by decide) ?_
            refine lv_bipush (v := 59) hx hb dX8_openRow_77 (by decide) ?_
            obtain ⟨r37, hcr37, hM⟩ := ob_use hM
            refine cl_V (As := [.int 0, .int 59]) (rest := []) (wM_TI cI ad o_X o_L o_N o_T o_U o_O o_E o_Q o_V r37) [] ⟨hx, hb, hml, hown, hts⟩ (c_Model_item l D cI sd ad o_C o_X o_L o_N o_T o_U o_O o_E o_Q o_V r36 0 59 r37 hcr37) (cwV2 hts q1512 mvX8_item rfl rfl ⟨(Nat.le_of_ble_eq_true rfl), (Nat.le_of_ble_eq_true rfl)⟩) hK hE hA hP hD hS 0 (T := TX8) (N := 48) (ci := 8) rfl rfl [0, 8, 9] rfl (by decide) rfl rfl rfl rfl rfl rfl hl.1 (Nat.le_of_ble_eq_true rfl) dX8_openRow_79 ⟨Nat.zero_le _, Nat.zero_le _⟩ (fun H locs hP hD hS => ?_)
            refine lv_aload_n hx hb dX8_openRow_82 rfl (lv_at hl 1 rfl) ?_
            refine lv_iconst (v := 1) hx hb dX8_openRow_83 (by decide) ?_
            refine lv_iload_n hx hb dX8_openRow_84 rfl (lv_at hl 3 rfl) ?_
            obtain ⟨r38, hcr38, hM⟩ := ob_use hM
            refine cl_V (As := [.int 1, .int a2]) (rest := []) (wM_TI cI ad o_X o_L o_N o_T o_U o_O o_E o_Q o_V r38) [] ⟨hx, hb, hml, hown, hts⟩ (c_Model_item l D cI sd ad o_C o_X o_L o_N o_T o_U o_O o_E o_Q o_V r37 1 a2 r38 hcr38) (cwV2 hts q1512 mvX8_item rfl rfl ⟨(Nat.le_of_ble_eq_true rfl), (Nat.le_of_ble_eq_true rfl)⟩) hK hE hA hP hD hS 0 (T := TX8) (N := 48) (ci := 8) rfl rfl [0, 8, 9] rfl (by decide) rfl rfl rfl rfl rfl rfl hl.1 (Nat.le_of_ble_eq_true rfl) dX8_openRow_85 ⟨Nat.zero_le _, Nat.zero_le _⟩ (fun H locs hP hD hS => ?_)
            cases hM
            exact rt_v hx hb hr hlk hP hD hS rfl dX8_openRow_88
        · replace hM := if_t c33 hM
          refine lv_aload_n hx hb dX8_openRow_37 rfl (lv_at hl 1 rfl) ?_
          refine va_get (D := D) (ci := 8) (v := .ref (ad 108)) (C := RX8) (T := TX8) (N := 48) hx hb hts layX8 hown hK hP 0 rfl rfl 17 (by decide) (hts _ (inA q995)) (fun _ h9 => h9) rfl dX8_openRow_38 ?_
          refine lv_iload_n hx hb dX8_openRow_41 rfl (lv_at hl 0 rfl) ?_
          obtain ⟨b39, hM⟩ := gd_use hM
          refine va_iald hx hb hK hP 1 0 rfl rfl b39 dX8_openRow_42 ?_
          refine lv_bipush (v := 11) hx hb dX8_openRow_43 (by decide) ?_
          refine lv_icmp_ne (tgt := 64) hx hb dX8_openRow_45 (by decide) (fun c40 => ?_) (fun c40 => ?_)
          · replace hM := if_f c40 hM
            refine lv_iload_n hx hb dX8_openRow_64 rfl (lv_at hl 0 rfl) ?_
            refine lv_iconst (v := (-1)) hx hb dX8_openRow_65 (by decide) ?_
            refine lv_icmp_eq (tgt := 82) hx hb dX8_openRow_66 (by decide) (fun c41 => ?_) (fun c41 => ?_)
            · replace hM := if_t c41 hM
              refine lv_aload_n hx hb dX8_openRow_82 rfl (lv_at hl 1 rfl) ?_
              refine lv_iconst (v := 1) hx hb dX8_openRow_83 (by decide) ?_
              refine lv_iload_n hx hb dX8_openRow_84 rfl (lv_at hl 3 rfl) ?_
              obtain ⟨r42, hcr42, hM⟩ := ob_use hM
              refine cl_V (As := [.int 1, .int a2]) (rest := []) (wM_TI cI ad o_X o_L o_N o_T o_U o_O o_E o_Q o_V r42) [] ⟨hx, hb, hml, hown, hts⟩ (c_Model_item l D cI sd ad o_C o_X o_L o_N o_T o_U o_O o_E o_Q o_V o_I 1 a2 r42 hcr42) (cwV2 hts q1512 mvX8_item rfl rfl ⟨(Nat.le_of_ble_eq_true rfl), (Nat.le_of_ble_eq_true rfl)⟩) hK hE hA hP hD hS 0 (T := TX8) (N := 48) (ci := 8) rfl rfl [0, 8, 9] rfl (by decide) rfl rfl rfl rfl rfl rfl hl.1 (Nat.le_of_ble_eq_true rfl) dX8_openRow_85 ⟨Nat.zero_le _, Nat.zero_le _⟩ (fun H locs hP hD hS => ?_)
              cases hM
              exact rt_v hx hb hr hlk hP hD hS rfl dX8_openRow_88
            · replace hM := if_f c41 hM
              refine lv_aload_n hx hb dX8_openRow_69 rfl (lv_at hl 1 rfl) ?_
              refine lv_iload_n hx hb dX8_openRow_70 rfl (lv_at hl 2 rfl) ?_
              refine lv_iload_n hx hb dX8_openRow_71 rfl (lv_at hl 0 rfl) ?_
              obtain ⟨r43, hcr43, hM⟩ := ob_use hM
              refine cl_V (As := [.int a1, .int x2]) (rest := []) (wM_TI cI ad o_X o_L o_N o_T o_U o_O o_E o_Q o_V r43) [] ⟨hx, hb, hml, hown, hts⟩ (c_Model_item l D cI sd ad o_C o_X o_L o_N o_T o_U o_O o_E o_Q o_V o_I a1 x2 r43 hcr43) (cwV2 hts q1512 mvX8_item rfl rfl ⟨(Nat.le_of_ble_eq_true rfl), (Nat.le_of_ble_eq_true rfl)⟩) hK hE hA hP hD hS 0 (T := TX8) (N := 48) (ci := 8) rfl rfl [0, 8, 9] rfl (by decide) rfl rfl rfl rfl rfl rfl hl.1 (Nat.le_of_ble_eq_true rfl) dX8_openRow_72 ⟨Nat.zero_le _, Nat.zero_le _⟩ (fun H locs hP hD hS => ?_)
              refine lv_aload_n hx hb dX8_openRow_75 rfl (lv_at hl 1 rfl) ?_
              refine lv_iconst (v := 0) hx hb dX8_openRow_76 (by decide) ?_
              refine lv_bipush (v := 59) hx hb dX8_openRow_77 (by decide) ?_
              obtain ⟨r44, hcr44, hM⟩ := ob_use hM
              refine cl_V (As := [.int 0, .int 59]) (rest := []) (wM_TI cI ad o_X o_L o_N o_T o_U o_O o_E o_Q o_V r44) [] ⟨hx, hb, hml, hown, hts⟩ (c_Model_item l D cI sd ad o_C o_X o_L o_N o_T o_U o_O o_E o_Q o_V r43 0 59 r44 hcr44) (cwV2 hts q1512 mvX8_item rfl rfl ⟨(Nat.le_of_ble_eq_true rfl), (Nat.le_of_ble_eq_true rfl)⟩) hK hE hA hP hD hS 0 (T := TX8) (N := 48) (ci := 8) rfl rfl [0, 8, 9] rfl (by decide) rfl rfl rfl rfl rfl rfl hl.1 (Nat.le_of_ble_eq_true rfl) dX8_openRow_79 ⟨Nat.zero_le _, Nat.zero_le _⟩ (fun H locs hP hD hS => ?_)
              refine lv_aload_n hx hb dX8_openRow_82 rfl (lv_at hl 1 rfl) ?_
              refine lv_iconst (v := 1) hx hb dX8_openRow_83 (by decide) ?_
              refine lv_iload_n hx hb dX8_openRow_84 rfl (lv_at hl 3 rfl) ?_
              obtain ⟨r45, hcr45, hM⟩ := ob_use hM
              refine cl_V (As := [.int 1, .int a2]) (rest := []) (wM_TI cI ad o_X o_L o_N o_T o_U o_O o_E o_Q o_V r45) [] ⟨hx, hb, hml, hown, hts⟩ (c_Model_item l D cI sd ad o_C o_X o_L o_N o_T o_U o_O o_E o_Q o_V r44 1 a2 r45 hcr45) (cwV2 hts q1512 mvX8_item rfl rfl ⟨(Nat.le_of_ble_eq_true rfl), (Nat.le_of_ble_eq_true rfl)⟩) hK hE hA hP hD hS 0 (T := TX8) (N := 48) (ci := 8) rfl rfl [0, 8, 9] rfl (by decide) rfl rfl rfl rfl rfl rfl hl.1 (Nat.le_of_ble_eq_true rfl) dX8_openRow_85 ⟨Nat.zero_le _, Nat.zero_le _⟩ (fun H locs hP hD hS => ?_)
              cases hM
              exact rt_v hx hb hr hlk hP hD hS rfl dX8_openRow_88
          · replace hM := if_t c40 hM
            refine lv_aload_n hx hb dX8_openRow_48 rfl (lv_at hl 1 rfl) ?_
            refine lv_iconst (v := 1) hx hb dX8_openRow_49 (by decide) ?_
            refine lv_iload_n hx hb dX8_openRow_50 rfl (lv_at hl 0 rfl) ?_
            obtain ⟨r46, hcr46, hM⟩ := ob_use hM
            refine cl_V (As := [.int 1, .int x2]) (rest := []) (wM_TI cI ad o_X o_L o_N o_T o_U o_O o_E o_Q o_V r46) [] ⟨hx, hb, hml, hown, hts⟩ (c_Model_item l D cI sd ad o_C o_X o_L o_N o_T o_U o_O o_E o_Q o_V o_I 1 x2 r46 hcr46) (cwV2 hts q1512 mvX8_item rfl rfl ⟨(Nat.le_of_ble_eq_true rfl), (Nat.le_of_ble_eq_true rfl)⟩) hK hE hA hP hD hS 0 (T := TX8) (N := 48) (ci := 8) rfl rfl [0, 8, 9] rfl (by decide) rfl rfl rfl rfl rfl rfl hl.1 (Nat.le_of_ble_eq_true rfl) dX8_openRow_51 ⟨Nat.zero_le _, Nat.zero_le _⟩ (fun H locs hP hD hS => ?_)
            refine lv_aload_n hx hb dX8_openRow_54 rfl (lv_at hl 1 rfl) ?_
            refine lv_iconst (v := 0) hx hb dX8_openRow_55 (by decide) ?_
            refine lv_bipush (v := 61) hx hb dX8_openRow_56 (by decide) ?_
            obtain ⟨r47, hcr47, hM⟩ := ob_use hM
            refine cl_V (As := [.int 0, .int 61]) (rest := []) (wM_TI cI ad o_X o_L o_N o_T o_U o_O o_E o_Q o_V r47) [] ⟨hx, hb, hml, hown, hts⟩ (c_Model_item l D cI sd ad o_C o_X o_L o_N o_T o_U o_O o_E o_Q o_V r46 0 61 r47 hcr47) (cwV2 hts q1512 mvX8_item rfl rfl ⟨(Nat.le_of_ble_eq_true rfl), (Nat.le_of_ble_eq_true rfl)⟩) hK hE hA hP hD hS 0 (T := TX8) (N := 48) (ci := 8) rfl rfl [0, 8, 9] rfl (by decide) rfl rfl rfl rfl rfl rfl hl.1 (Nat.le_of_ble_eq_true rfl) dX8_openRow_58 ⟨Nat.zero_le _, Nat.zero_le _⟩ (fun H locs hP hD hS => ?_)
            refine lv_goto (tgt := 82) hx hb dX8_openRow_61 (by decide) ?_
            refine lv_aload_n hx hb dX8_openRow_82 rfl (lv_at hl 1 rfl) ?_
            refine lv_iconst (v := 1) hx hb dX8_openRow_83 (by decide) ?_
            refine lv_iload_n hx hb dX8_openRow_84 rfl (lv_at hl 3 rfl) ?_
            obtain ⟨r48, hcr48, hM⟩ := ob_use hM
            refine cl_V (As := [.int 1, .int a2]) (rest := []) (wM_TI cI ad o_X o_L o_N o_T o_U o_O o_E o_Q o_V r48) [] ⟨hx, hb, hml, hown, hts⟩ (c_Model_item l D cI sd ad o_C o_X o_L o_N o_T o_U o_O o_E o_Q o_V r47 1 a2 r48 hcr48) (cwV2 hts q1512 mvX8_item rfl rfl ⟨(Nat.le_of_ble_eq_true rfl), (Nat.le_of_ble_eq_true rfl)⟩) hK hE hA hP hD hS 0 (T := TX8) (N := 48) (ci := 8) rfl rfl [0, 8, 9] rfl (by decide) rfl rfl rfl rfl rfl rfl hl.1 (Nat.le_of_ble_eq_true rfl) dX8_openRow_85 ⟨Nat.zero_le _, Nat.zero_le _⟩ (fun H locs hP hD hS => ?_)
            cases hM
            exact rt_v hx hb hr hlk hP hD hS rfl dX8_openRow_88
    · replace hM := if_t c26 hM
      refine lv_aload_n hx hb dX8_openRow_17 rfl (lv_at hl 1 rfl) ?_
      refine lv_iconst (v := 2) hx hb dX8_openRow_18 (by decide) ?_
      refine lv_iload_n hx hb dX8_openRow_19 rfl (lv_at hl 0 rfl) ?_
      obtain ⟨r49, hcr49, hM⟩ := ob_use hM
      refine cl_V (As := [.int 2, .int x2]) (rest := []) (wM_TI cI ad o_X o_L o_N o_T o_U o_O o_E o_Q o_V r49) [] ⟨hx, hb, hml, hown, hts⟩ (c_Model_item l D cI sd ad o_C o_X o_L o_N o_T o_U o_O o_E o_Q o_V o_I 2 x2 r49 hcr49) (cwV2 hts q1512 mvX8_item rfl rfl ⟨(Nat.le_of_ble_eq_true rfl), (Nat.le_of_ble_eq_true rfl)⟩) hK hE hA hP hD hS 0 (T := TX8) (N := 48) (ci := 8) rfl rfl [0, 8, 9] rfl (by decide) rfl rfl rfl rfl rfl rfl hl.1 (Nat.le_of_ble_eq_true rfl) dX8_openRow_20 ⟨Nat.zero_le _, Nat.zero_le _⟩ (fun H locs hP hD hS => ?_)
      refine lv_goto (tgt := 82) hx hb dX8_openRow_23 (by decide) ?_
      refine lv_aload_n hx hb dX8_openRow_82 rfl (lv_at hl 1 rfl) ?_
      refine lv_iconst (v := 1) hx hb dX8_openRow_83 (by decide) ?_
      refine lv_iload_n hx hb dX8_openRow_84 rfl (lv_at hl 3 rfl) ?_
      obtain ⟨r50, hcr50, hM⟩ := ob_use hM
      refine cl_V (As := [.int 1, .int a2]) (rest := []) (wM_TI cI ad o_X o_L o_N o_T o_U o_O o_E o_Q o_V r50) [] ⟨hx, hb, hml, hown, hts⟩ (c_Model_item l D cI sd ad o_C o_X o_L o_N o_T o_U o_O o_E o_Q o_V r49 1 a2 r50 hcr50) (cwV2 hts q1512 mvX8_item rfl rfl ⟨(Nat.le_of_ble_eq_true rfl), (Nat.le_of_ble_eq_true rfl)⟩) hK hE hA hP hD hS 0 (T := TX8) (N := 48) (ci := 8) rfl rfl [0, 8, 9] rfl (by decide) rfl rfl rfl rfl rfl rfl hl.1 (Nat.le_of_ble_eq_true rfl) dX8_openRow_85 ⟨Nat.zero_le _, Nat.zero_le _⟩ (fun H locs hP hD hS => ?_)
      cases hM
      exact rt_v hx hb hr hlk hP hD hS rfl dX8_openRow_88

set_option maxHeartbeats 4000000 in
set_option maxRecDepth 100000 in
theorem c_Model_openRung (l : Launch) (D : va_G) (cI : ClassId) (sd : Nat → Nat) (ad : Nat → Nat) (o_X : S_MX) (o_L : S_ML) (o_N : S_MN) (o_U : S_MU) (o_O : S_MO) (o_E : S_ME) (o_Q : S_MQ) (o_C : S_MC) (o_T : S_MT) (o_V : S_MV) (o_I : S_MI) (a1 : Int32) (res : S_MV × S_MI) (hM : f_Model_openRung o_C o_T o_V o_I a1 = some res) : Ctr l D cI sd yX8_openRung (wsM yX8_openRung cX8_openRung 3 (Option.none : Option Jvm.ClassFile.FieldType)) { frames := 4, cells := 0, slots := 0, locals := 83 } [.ref (ad 100), .int a1] (wM_CTVI cI ad o_X o_L o_N o_T o_U o_O o_E o_Q o_V o_I o_C) (wM_CTVI cI ad o_X o_L o_N o_T o_U o_O o_E o_Q res.1 res.2 o_C) none := by
  refine Ctr.of (cc := cX8_openRung) (maxL := 3) (own := RX8) (by decide +kernel) rfl rfl (Nat.le_of_ble_eq_true rfl) ?_
  intro p e s m below meth c A ls hx hb hr hml hown hts hlk hK hE hA hP hD hS hl
  have hl : lv_has ls 3 [(0, .ref (ad 100)), (1, .int a1)] := hl
  unfold f_Model_openRung at hM
  refine lv_aload_n hx hb dX8_openRung_0 rfl (lv_at hl 0 rfl) ?_
  refine va_get (D := D) (ci := 8) (v := .ref (ad 110)) (C := RX8) (T := TX8) (N := 48) hx hb hts layX8 hown hK hP 0 rfl rfl 19 (by decide) (hts _ (inA q997)) (fun _ h9 => h9) rfl dX8_openRung_1 ?_
  refine lv_iload_n hx hb dX8_openRung_4 rfl (lv_at hl 1 rfl) ?_
  obtain ⟨b1, hM⟩ := gd_use hM
  refine va_iald hx hb hK hP 7 0 rfl rfl b1 dX8_openRung_5 ?_
  refine lv_topi (fun x2 ex2 => ?_)
  replace hM := nm_use ex2 hM
  refine lv_istore_n (lv' := [(2, .int x2), (0, .ref (ad 100)), (1, .int a1)]) hx hb dX8_openRung_6 rfl hl (by decide) rfl (fun ls hl => ?_)
  refine lv_aload_n hx hb dX8_openRung_7 rfl (lv_at hl 1 rfl) ?_
  refine va_get (D := D) (ci := 8) (v := .ref (ad 108)) (C := RX8) (T := TX8) (N := 48) hx hb hts layX8 hown hK hP 0 rfl rfl 17 (by decide) (hts _ (inA q995)) (fun _ h9 => h9) rfl dX8_openRung_8 ?_
  refine lv_iload_n hx hb dX8_openRung_11 rfl (lv_at hl 2 rfl) ?_
  obtain ⟨b3, hM⟩ := gd_use hM
  refine va_iald hx hb hK hP 5 0 rfl rfl b3 dX8_openRung_12 ?_
  by_cases c4 : (o_T.2.2.1 a1.toNatClampNeg) = 22
  · replace hM := if_t c4 hM
    refine lv_tableIn (tgt := 56) hx hb dX8_openRung_13 (by rw [c4]; decide) (by rw [c4]; decide) (by rw [c4]; rfl) (by decide) ?_
    refine lv_aload_n hx hb dX8_openRung_56 rfl (lv_at hl 1 rfl) ?_
    refine lv_bipush (v := 38) hx hb dX8_openRung_57 (by decide) ?_
    refine lv_iconst (v := 2) hx hb dX8_openRung_59 (by decide) ?_
    refine lv_iload_n hx hb dX8_openRung_60 rfl (lv_at hl 2 rfl) ?_
    refine lv_bipush (v := 37) hx hb dX8_openRung_61 (by decide) ?_
    obtain ⟨r5, hcr5, hM⟩ := ob_use hM
    refine cl_V (As := [.int 38, .int 2, .int a1, .int 37]) (rest := []) (wM_CTVI cI ad o_X o_L o_N o_T o_U o_O o_E o_Q o_V r5 o_C) [] ⟨hx, hb, hml, hown, hts⟩ (c_Model_itemAll l D cI sd ad o_C o_X o_L o_N o_U o_O o_E o_Q o_V o_T o_I 38 2 a1 37 r5 hcr5) (cwV2 hts q1559 mvX8_itemAll rfl rfl ⟨(Nat.le_of_ble_eq_true rfl), (Nat.le_of_ble_eq_true rfl)⟩) hK hE hA hP hD hS 0 (T := TX8) (N := 48) (ci := 8) rfl rfl [0, 5, 6, 7, 8, 9, 10, 11, 13, 14] rfl (by decide) (mrgE rfl rfl) rfl rfl rfl rfl rfl hl.1 (Nat.le_of_ble_eq_true rfl) dX8_openRung_63 ⟨Nat.zero_le _, Nat.zero_le _⟩ (fun H locs hP hD hS => ?_)
    refine lv_goto (tgt := 206) hx hb dX8_openRung_66 (by decide) ?_
    cases hM
    exact rt_v hx hb hr hlk hP hD hS rfl dX8_openRung_206
  replace hM := if_f c4 hM
  by_cases c6 : (o_T.2.2.1 a1.toNatClampNeg) = 23
  · replace hM := if_t c6 hM
    refine lv_tableIn (tgt := 69) hx hb dX8_openRung_13 (by rw [c6]; decide) (by rw [c6]; decide) (by rw [c6]; rfl) (by decide) ?_
    refine lv_aload_n hx hb dX8_openRung_69 rfl (lv_at hl 1 rfl) ?_
    refine lv_bipush (v := 40) hx hb dX8_openRung_70 (by decide) ?_
    refine lv_iconst (v := 2) hx hb dX8_openRung_72 (by decide) ?_
    refine lv_iload_n hx hb dX8_openRung_73 rfl (lv_at hl 2 rfl) ?_
    refine lv_bipush (v := 39) hx hb dX8_openRung_74 (by decide) ?_
    obtain ⟨r7, hcr7, hM⟩ := ob_use hM
    refine cl_V (As := [.int 40, .int 2, .int a1, .int 39]) (rest := []) (wM_CTVI cI ad o_X o_L o_N o_T o_U o_O o_E o_Q o_V r7 o_C) [] ⟨hx, hb, hml, hown, hts⟩ (c_Model_itemAll l D cI sd ad o_C o_X o_L o_N o_U o_O o_E o_Q o_V o_T o_I 40 2 a1 39 r7 hcr7) (cwV2 hts q1559 mvX8_itemAll rfl rfl ⟨(Nat.le_of_ble_eq_true rfl), (Nat.le_of_ble_eq_true rfl)⟩) hK hE hA hP hD hS 0 (T := TX8) (N := 48) (ci := 8) rfl rfl [0, 5, 6, 7, 8, 9, 10, 11, 13, 14] rfl (by decide) (mrgE rfl rfl) rfl rfl rfl rfl rfl hl.1 (Nat.le_of_ble_eq_true rfl) dX8_openRung_76 ⟨Nat.zero_le _, Nat.zero_le _⟩ (fun H locs hP hD hS => ?_)
    refine lv_goto (tgt := 206) hx hb dX8_openRung_79 (by decide) ?_
    cases hM
    exact rt_v hx hb hr hlk hP hD hS rfl dX8_openRung_206
  replace hM := if_f c6 hM
  by_cases c8 : (o_T.2.2.1 a1.toNatClampNeg) = 24
  · replace hM := if_t c8 hM
    refine lv_tableIn (tgt := 82) hx hb dX8_openRung_13 (by rw [c8]; decide) (by rw [c8]; decide) (by rw [c8]; rfl) (by decide) ?_
    refine lv_aload_n hx hb dX8_openRung_82 rfl (lv_at hl 1 rfl) ?_
    refine lv_bipush (v := 60) hx hb dX8_openRung_83 (by decide) ?_
    refine lv_iconst (v := 2) hx hb dX8_openRung_85 (by decide) ?_
    refine lv_iload_n hx hb dX8_openRung_86 rfl (lv_at hl 2 rfl) ?_
    refine lv_iconst (v := (-1)) hx hb dX8_openRung_87 (by decide) ?_
    obtain ⟨r9, hcr9, hM⟩ := ob_use hM
    refine cl_V (As := [.int 60, .int 2, .int a1, .int (-1)]) (rest := []) (wM_CTVI cI ad o_X o_L o_N o_T o_U o_O o_E o_Q o_V r9 o_C) [] ⟨hx, hb, hml, hown, hts⟩ (c_Model_itemAll l D cI sd ad o_C o_X o_L o_N o_U o_O o_E o_Q o_V o_T o_I 60 2 a1 (-1) r9 hcr9) (cwV2 hts q1559 mvX8_itemAll rfl rfl ⟨(Nat.le_of_ble_eq_true rfl), (Nat.le_of_ble_eq_true rfl)⟩) hK hE hA hP hD hS 0 (T := TX8) (N := 48) (ci := 8) rfl rfl [0, 5, 6, 7, 8, 9, 10, 11, 13, 14] rfl (by decide) (mrgE rfl rfl) rfl rfl rfl rfl rfl hl.1 (Nat.le_of_ble_eq_true rfl) dX8_openRung_88 ⟨Nat.zero_le _, Nat.zero_le _⟩ (fun H locs hP hD hS => ?_)
    refine lv_goto (tgt := 206) hx hb dX8_openRung_91 (by decide) ?_
    cases hM
    exact rt_v hx hb hr hlk hP hD hS rfl dX8_openRung_206
  replace hM := if_f c8 hM
  by_cases c10 : (o_T.2.2.1 a1.toNatClampNeg) = 25
  · replace hM := if_t c10 hM
    refine lv_tableIn (tgt := 94) hx hb dX8_openRung_13 (by rw [c10]; decide) (by rw [c10]; decide) (by rw [c10]; rfl) (by decide) ?_
    refine lv_aload_n hx hb dX8_openRung_94 rfl (lv_at hl 1 rfl) ?_
    refine lv_iconst (v := (-1)) hx hb dX8_openRung_95 (by decide) ?_
    refine lv_iconst (v := 1) hx hb dX8_openRung_96 (by decide) ?_
    refine lv_iload_n hx hb dX8_openRung_97 rfl (lv_at hl 2 rfl) ?_
    refine lv_iload_n hx hb dX8_openRung_98 rfl (lv_at hl 0 rfl) ?_
    refine lv_if_ne (tgt := 106) hx hb dX8_openRung_99 (by decide) (fun c11 => ?_) (fun c11 => ?_)
    · replace hM := if_f c11 hM
      refine lv_iload_n hx hb dX8_openRung_106 rfl (lv_at hl 0 rfl) ?_
      refine lv_iconst (v := 1) hx hb dX8_openRung_107 (by decide) ?_
      refine lv_icmp_ne (tgt := 116) hx hb dX8_openRung_108 (by decide) (fun c12 => ?_) (fun c12 => ?_)
      · replace hM := if_f c12 hM
        refine lv_iload_n hx hb dX8_openRung_116 rfl (lv_at hl 0 rfl) ?_
        refine lv_iconst (v := 2) hx hb dX8_openRung_117 (by decide) ?_
        refine lv_icmp_ne (tgt := 126) hx hb dX8_openRung_118 (by decide) (fun c13 => ?_) (fun c13 => ?_)
        · replace hM := if_f c13 hM
          refine lv_bipush (v := 68) hx hb dX8_openRung_126 (by decide) ?_
          obtain ⟨r14, hcr14, hM⟩ := ob_use hM
          refine cl_V (As := [.int (-1), .int 1, .int a1, .int 68]) (rest := []) (wM_CTVI cI ad o_X o_L o_N o_T o_U o_O o_E o_Q o_V r14 o_C) [] ⟨hx, hb, hml, hown, hts⟩ (c_Model_itemAll l D cI sd ad o_C o_X o_L o_N o_U o_O o_E o_Q o_V o_T o_I (-1) 1 a1 68 r14 hcr14) (cwV2 hts q1559 mvX8_itemAll rfl rfl ⟨(Nat.le_of_ble_eq_true rfl), (Nat.le_of_ble_eq_true rfl)⟩) hK hE hA hP hD hS 0 (T := TX8) (N := 48) (ci := 8) rfl rfl [0, 5, 6, 7, 8, 9, 10, 11, 13, 14] rfl (by decide) (mrgE rfl rfl) rfl rfl rfl rfl rfl hl.1 (Nat.le_of_ble_eq_true rfl) dX8_openRung_128 ⟨Nat.zero_le _, Nat.zero_le _⟩ (fun H locs hP hD hS => ?_)
          refine lv_goto (tgt := 206) hx hb dX8_openRung_131 (by decide) ?_
          cases hM
          exact rt_v hx hb hr hlk hP hD hS rfl dX8_openRung_206
        · replace hM := if_t c13 hM
          refine lv_bipush (v := 69) hx hb dX8_openRung_121 (by decide) ?_
          refine lv_goto (tgt := 128) hx hb dX8_openRung_123 (by decide) ?_
          obtain ⟨r15, hcr15, hM⟩ := ob_use hM
          refine cl_V (As := [.int (-1), .int 1, .int a1, .int 69]) (rest := []) (wM_CTVI cI ad o_X o_L o_N o_T o_U o_O o_E o_Q o_V r15 o_C) [] ⟨hx, hb, hml, hown, hts⟩ (c_Model_itemAll l D cI sd ad o_C o_X o_L o_N o_U o_O o_E o_Q o_V o_T o_I (-1) 1 a1 69 r15 hcr15) (cwV2 hts q1559 mvX8_itemAll rfl rfl ⟨(Nat.le_of_ble_eq_true rfl), (Nat.le_of_ble_eq_true rfl)⟩) hK hE hA hP hD hS 0 (T := TX8) (N := 48) (ci := 8) rfl rfl [0, 5, 6, 7, 8, 9, 10, 11, 13, 14] rfl (by decide) (mrgE rfl rfl) rfl rfl rfl rfl rfl hl.1 (Nat.le_of_ble_eq_true rfl) dX8_openRung_128 ⟨Nat.zero_le _, Nat.zero_le _⟩ (fun H locs hP hD hS => ?_)
          refine lv_goto (tgt := 206) hx hb dX8_openRung_131 (by decide) ?_
          cases hM
          exact rt_v hx hb hr hlk hP hD hS rfl dX8_openRung_206
      · replace hM := if_t c12 hM
        refine lv_bipush (v := 66) hx hb dX8_openRung_111 (by decide) ?_
        refine lv_goto (tgt := 128) hx hb dX8_openRung_113 (by decide) ?_
        obtain ⟨r16, hcr16, hM⟩ := ob_use hM
        refine cl_V (As := [.int (-1), .int 1, .int a1, .int 66]) (rest := []) (wM_CTVI cI ad o_X o_L o_N o_T o_U o_O o_E o_Q o_V r16 o_C) [] ⟨hx, hb, hml, hown, hts⟩ (c_Model_itemAll l D cI sd ad o_C o_X o_L o_N o_U o_O o_E o_Q o_V o_T o_I (-1) 1 a1 66 r16 hcr16) (cwV2 hts q1559 mvX8_itemAll rfl rfl ⟨(Nat.le_of_ble_eq_true rfl), (Nat.le_of_ble_eq_true rfl)⟩) hK hE hA hP hD hS 0 (T := TX8) (N := 48) (ci := 8) rfl rfl [0, 5, 6, 7, 8, 9, 10, 11, 13, 14] rfl (by decide) (mrgE rfl rfl) rfl rfl rfl rfl rfl hl.1 (Nat.le_of_ble_eq_true rfl) dX8_openRung_128 ⟨Nat.zero_le _, Nat.zero_le _⟩ (fun H locs hP hD hS => ?_)
        refine lv_goto (tgt := 206) hx hb dX8_openRung_131 (by decide) ?_
        cases hM
        exact rt_v hx hb hr hlk hP hD hS rfl dX8_openRung_206
    · replace hM := if_t c11 hM
      refine lv_iconst (v := (-1)) hx hb dX8_openRung_102 (by decide) ?_
      refine lv_goto (tgt := 128) hx hb dX8_openRung_103 (by decide) ?_
      obtain ⟨r17, hcr17, hM⟩ := ob_use hM
      refine cl_V (As := [.int (-1), .int 1, .int a1, .int (-1)]) (rest := []) (wM_CTVI cI ad o_X o_L o_N o_T o_U o_O o_E o_Q o_V r17 o_C) [] ⟨hx, hb, hml, hown, hts⟩ (c_Model_itemAll l D cI sd ad o_C o_X o_L o_N o_U o_O o_E o_Q o_V o_T o_I (-1) 1 a1 (-1) r17 hcr17) (cwV2 hts q1559 mvX8_itemAll rfl rfl ⟨(Nat.le_of_ble_eq_true rfl), (Nat.le_of_ble_eq_true rfl)⟩) hK hE hA hP hD hS 0 (T := TX8) (N := 48) (ci := 8) rfl rfl [0, 5, 6, 7, 8, 9, 10, 11, 13, 14] rfl (by decide) (mrgE rfl rfl) rfl rfl rfl rfl rfl hl.1 (Nat.le_of_ble_eq_true rfl) dX8_openRung_128 ⟨Nat.zero_le _, Nat.zero_le _⟩ (fun H locs hP hD hS => ?_)
      refine lv_goto (tgt := 206) hx hb dX8_openRung_131 (by decide) ?_
      cases hM
      exact rt_v hx hb hr hlk hP hD hS rfl dX8_openRung_206
  replace hM := if_f c10 hM
  by_cases c18 : (o_T.2.2.1 a1.toNatClampNeg) = 26
  · replace hM := if_t c18 hM
    refine lv_tableIn (tgt := 134) hx hb dX8_openRung_13 (by rw [c18]; decide) (by rw [c18]; decide) (by rw [c18]; rfl) (by decide) ?_
    refine lv_aload_n hx hb dX8_openRung_134 rfl (lv_at hl 1 rfl) ?_
    refine lv_bipush (v := 64) hx hb dX8_openRung_135 (by decide) ?_
    obtain ⟨r19, hcr19, hM⟩ := ob_use hM
    refine cl_V (As := [.int 64]) (rest := []) (wM_CTVI cI ad o_X o_L o_N o_T o_U o_O o_E o_Q r19 o_I o_C) [] ⟨hx, hb, hml, hown, hts⟩ (c_Model_putToken l D cI sd ad o_X o_L o_N o_T o_U o_O o_E o_Q o_I o_C o_V 64 r19 hcr19) (cwV2 hts q1520 mvX8_putToken rfl rfl ⟨(Nat.le_of_ble_eq_true rfl), (Nat.le_of_ble_eq_true rfl)⟩) hK hE hA hP hD hS 0 (T := TX8) (N := 48) (ci := 8) rfl rfl [0, 1, 2, 3, 4, 12] rfl (by decide) (mrgE rfl rfl) rfl rfl rfl rfl rfl hl.1 (Nat.le_of_ble_eq_true rfl) dX8_openRung_137 ⟨Nat.zero_le _, Nat.zero_le _⟩ (fun H locs hP hD hS => ?_)
    refine lv_goto (tgt := 206) hx hb dX8_openRung_140 (by decide) ?_
    cases hM
    exact rt_v hx hb hr hlk hP hD hS rfl dX8_openRung_206
  replace hM := if_f c18 hM
  by_cases c20 : (o_T.2.2.1 a1.toNatClampNeg) = 27
  · replace hM := if_t c20 hM
    refine lv_tableIn (tgt := 143) hx hb dX8_openRung_13 (by rw [c20]; decide) (by rw [c20]; decide) (by rw [c20]; rfl) (by decide) ?_
    refine lv_aload_n hx hb dX8_openRung_143 rfl (lv_at hl 1 rfl) ?_
    refine lv_bipush (v := 65) hx hb dX8_openRung_144 (by decide) ?_
    obtain ⟨r21, hcr21, hM⟩ := ob_use hM
    refine cl_V (As := [.int 65]) (rest := []) (wM_CTVI cI ad o_X o_L o_N o_T o_U o_O o_E o_Q r21 o_I o_C) [] ⟨hx, hb, hml, hown, hts⟩ (c_Model_putToken l D cI sd ad o_X o_L o_N o_T o_U o_O o_E o_Q o_I o_C o_V 65 r21 hcr21) (cwV2 hts q1520 mvX8_putToken rfl rfl ⟨(Nat.le_of_ble_eq_true rfl), (Nat.le_of_ble_eq_true rfl)⟩) hK hE hA hP hD hS 0 (T := TX8) (N := 48) (ci := 8) rfl rfl [0, 1, 2, 3, 4, 12] rfl (by decide) (mrgE rfl rfl) rfl rfl rfl rfl rfl hl.1 (Nat.le_of_ble_eq_true rfl) dX8_openRung_146 ⟨Nat.zero_le _, Nat.zero_le _⟩ (fun H locs hP hD hS => ?_)
    refine lv_goto (tgt := 206) hx hb dX8_openRung_149 (by decide) ?_
    cases hM
    exact rt_v hx hb hr hlk hP hD hS rfl dX8_openRung_206
  replace hM := if_f c20 hM
  by_cases c22 : (o_T.2.2.1 a1.toNatClampNeg) = 28
  · replace hM := if_t c22 hM
    refine lv_tableIn (tgt := 152) hx hb dX8_openRung_13 (by rw [c22]; decide) (by rw [c22]; decide) (by rw [c22]; rfl) (by decide) ?_
    refine lv_aload_n hx hb dX8_openRung_152 rfl (lv_at hl 1 rfl) ?_
    refine lv_bipush (v := 56) hx hb dX8_openRung_153 (by decide) ?_
    refine lv_iconst (v := 1) hx hb dX8_openRung_155 (by decide) ?_
    refine lv_iload_n hx hb dX8_openRung_156 rfl (lv_at hl 2 rfl) ?_
    refine lv_iload_n hx hb dX8_openRung_157 rfl (lv_at hl 0 rfl) ?_
    refine lv_if_ne (tgt := 165) hx hb dX8_openRung_158 (by decide) (fun c23 => ?_) (fun c23 => ?_)
    · replace hM := if_f c23 hM
      refine lv_iload_n hx hb dX8_openRung_165 rfl (lv_at hl 0 rfl) ?_
      refine lv_iconst (v := 1) hx hb dX8_openRung_166 (by decide) ?_
      refine lv_icmp_ne (tgt := 175) hx hb dX8_openRung_167 (by decide) (fun c24 => ?_) (fun c24 => ?_)
      · replace hM := if_f c24 hM
        refine lv_iload_n hx hb dX8_openRung_175 rfl (lv_at hl 0 rfl) ?_
        refine lv_iconst (v := 2) hx hb dX8_openRung_176 (by decide) ?_
        refine lv_icmp_ne (tgt := 185) hx hb dX8_openRung_177 (by decide) (fun c25 => ?_) (fun c25 => ?_)
        · replace hM := if_f c25 hM
          refine lv_bipush (v := 64) hx hb dX8_openRung_185 (by decide) ?_
          obtain ⟨r26, hcr26, hM⟩ := ob_use hM
          refine cl_V (As := [.int 56, .int 1, .int a1, .int 64]) (rest := []) (wM_CTVI cI ad o_X o_L o_N o_T o_U o_O o_E o_Q o_V r26 o_C) [] ⟨hx, hb, hml, hown, hts⟩ (c_Model_itemAll l D cI sd ad o_C o_X o_L o_N o_U o_O o_E o_Q o_V o_T o_I 56 1 a1 64 r26 hcr26) (cwV2 hts q1559 mvX8_itemAll rfl rfl ⟨(Nat.le_of_ble_eq_true rfl), (Nat.le_of_ble_eq_true rfl)⟩) hK hE hA hP hD hS 0 (T := TX8) (N := 48) (ci := 8) rfl rfl [0, 5, 6, 7, 8, 9, 10, 11, 13, 14] rfl (by decide) (mrgE rfl rfl) rfl rfl rfl rfl rfl hl.1 (Nat.le_of_ble_eq_true rfl) dX8_openRung_187 ⟨Nat.zero_le _, Nat.zero_le _⟩ (fun H locs hP hD hS => ?_)
          refine lv_aload_n hx hb dX8_openRung_190 rfl (lv_at hl 1 rfl) ?_
          refine lv_iconst (v := 0) hx hb dX8_openRung_191 (by decide) ?_
          refine lv_bipush (v := 55) hx hb dX8_openRung_192 (by decide) ?_
          obtain ⟨r27, hcr27, hM⟩ := ob_use hM
          refine cl_V (As := [.int 0, .int 55]) (rest := []) (wM_CTVI cI ad o_X o_L o_N o_T o_U o_O o_E o_Q o_V r27 o_C) [] ⟨hx, hb, hml, hown, hts⟩ (c_Model_item l D cI sd ad o_C o_X o_L o_N o_T o_U o_O o_E o_Q o_V r26 0 55 r27 hcr27) (cwV2 hts q1512 mvX8_item rfl rfl ⟨(Nat.le_of_ble_eq_true rfl), (Nat.le_of_ble_eq_true rfl)⟩) hK hE hA hP hD hS 0 (T := TX8) (N := 48) (ci := 8) rfl rfl [0, 13, 14] rfl (by decide) rfl rfl rfl rfl rfl rfl hl.1 (Nat.le_of_ble_eq_true rfl) dX8_openRung_194 ⟨Nat.zero_le _, Nat.zero_le _⟩ (fun H locs hP hD hS => ?_)
          refine lv_goto (tgt := 206) hx hb dX8_openRung_197 (by decide) ?_
          cases hM
          exact rt_v hx hb hr hlk hP hD hS rfl dX8_openRung_206
        · replace hM := if_t c25 hM
          refine lv_bipush (v := 63) hx hb dX8_openRung_180 (by decide) ?_
          refine lv_goto (tgt := 187) hx hb dX8_openRung_182 (by decide) ?_
          obtain ⟨r28, hcr28, hM⟩ := ob_use hM
          refine cl_V (As := [.int 56, .int 1, .int a1, .int 63]) (rest := []) (wM_CTVI cI ad o_X o_L o_N o_T o_U o_O o_E o_Q o_V r28 o_C) [] ⟨hx, hb, hml, hown, hts⟩ (c_Model_itemAll l D cI sd ad o_C o_X o_L o_N o_U o_O o_E o_Q o_V o_T o_I 56 1 a1 63 r28 hcr28) (cwV2 hts q1559 mvX8_itemAll rfl rfl ⟨(Nat.le_of_ble_eq_true rfl), (Nat.le_of_ble_eq_true rfl)⟩) hK hE hA hP hD hS 0 (T := TX8) (N := 48) (ci := 8) rfl rfl [0, 5, 6, 7, 8, 9, 10, 11, 13, 14] rfl (by decide) (mrgE rfl rfl) rfl rfl rfl rfl rfl hl.1 (Nat.le_of_ble_eq_true rfl) dX8_openRung_187 ⟨Nat.zero_le _, Nat.zero_le _⟩ (fun H locs hP hD hS => ?_)
          refine lv_aload_n hx hb dX8_openRung_190 rfl (lv_at hl 1 rfl) ?_
          refine lv_iconst (v := 0) hx hb dX8_openRung_191 (by decide) ?_
          refine lv_bipush (v := 55) hx hb dX8_openRung_192 (by decide) ?_
          obtain ⟨r29, hcr29, hM⟩ := ob_use hM
          refine cl_V (As := [.int 0, .int 55]) (rest := []) (wM_CTVI cI ad o_X o_L o_N o_T o_U o_O o_E o_Q o_V r29 o_C) [] ⟨hx, hb, hml, hown, hts⟩ (c_Model_item l D cI sd ad o_C o_X o_L o_N o_T o_U o_O o_E o_Q o_V r28 0 55 r29 hcr29) (cwV2 hts q1512 mvX8_item rfl rfl ⟨(Nat.le_of_ble_eq_true rfl), (Nat.le_of_ble_eq_true rfl)⟩) hK hE hA hP hD hS 0 (T := TX8) (N := 48) (ci := 8) rfl rfl [0, 13, 14] rfl (by decide) rfl rfl rfl rfl rfl rfl hl.1 (Nat.le_of_ble_eq_true rfl) dX8_openRung_194 ⟨Nat.zero_le _, Nat.zero_le _⟩ (fun H locs hP hD hS => ?_)
          refine lv_goto (tgt := 206) hx hb dX8_openRung_197 (by decide) ?_
          cases hM
          exact rt_v hx hb hr hlk hP hD hS rfl dX8_openRung_206
      · replace hM := if_t c24 hM
        refine lv_bipush (v := 66) hx hb dX8_openRung_170 (by decide) ?_
        refine lv_goto (tgt := 187) hx hb dX8_openRung_172 (by decide) ?_
        obtain ⟨r30, hcr30, hM⟩ := ob_use hM
        refine cl_V (As := [.int 56, .int 1, .int a1, .int 66]) (rest := []) (wM_CTVI cI ad o_X o_L o_N o_T o_U o_O o_E o_Q o_V r30 o_C) [] ⟨hx, hb, hml, hown, hts⟩ (c_Model_itemAll l D cI sd ad o_C o_X o_L o_N o_U o_O o_E o_Q o_V o_T o_I 56 1 a1 66 r30 hcr30) (cwV2 hts q1559 mvX8_itemAll rfl rfl ⟨(Nat.le_of_ble_eq_true rfl), (Nat.le_of_ble_eq_true rfl)⟩) hK hE hA hP hD hS 0 (T := TX8) (N := 48) (ci := 8) rfl rfl [0, 5, 6, 7, 8, 9, 10, 11, 13, 14] rfl (by decide) (mrgE rfl rfl) rfl rfl rfl rfl rfl hl.1 (Nat.le_of_ble_eq_true rfl) dX8_openRung_187 ⟨Nat.zero_le _, Nat.zero_le _⟩ (fun H locs hP hD hS => ?_)
        refine lv_aload_n hx hb dX8_openRung_190 rfl (lv_at hl 1 rfl) ?_
        refine lv_iconst (v := 0) hx hb dX8_openRung_191 (by decide) ?_
        refine lv_bipush (v := 55) hx hb dX8_openRung_192 (by decide) ?_
        obtain ⟨r31, hcr31, hM⟩ := ob_use hM
        refine cl_V (As := [.int 0, .int 55]) (rest := []) (wM_CTVI cI ad o_X o_L o_N o_T o_U o_O o_E o_Q o_V r31 o_C) [] ⟨hx, hb, hml, hown, hts⟩ (c_Model_item l D cI sd ad o_C o_X o_L o_N o_T o_U o_O o_E o_Q o_V r30 0 55 r31 hcr31) (cwV2 hts q1512 mvX8_item rfl rfl ⟨(Nat.le_of_ble_eq_true rfl), (Nat.le_of_ble_eq_true rfl)⟩) hK hE hA hP hD hS 0 (T := TX8) (N := 48) (ci := 8) rfl rfl [0, 13, 14] rfl (by decide) rfl rfl rfl rfl rfl rfl hl.1 (Nat.le_of_ble_eq_true rfl) dX8_openRung_194 ⟨Nat.zero_le _, Nat.zero_le _⟩ (fun H locs hP hD hS => ?_)
        refine lv_goto (tgt := 206) hx hb dX8_openRung_197 (by decide) ?_
        cases hM
        exact rt_v hx hb hr hlk hP hD hS rfl dX8_openRung_206
    · replace hM := if_t c23 hM
      refine lv_iconst (v := (-1)) hx hb dX8_openRung_161 (by decide) ?_
      refine lv_goto (tgt := 187) hx hb dX8_openRung_162 (by decide) ?_
      obtain ⟨r32, hcr32, hM⟩ := ob_use hM
      refine cl_V (As := [.int 56, .int 1, .int a1, .int (-1)]) (rest := []) (wM_CTVI cI ad o_X o_L o_N o_T o_U o_O o_E o_Q o_V r32 o_C) [] ⟨hx, hb, hml, hown, hts⟩ (c_Model_itemAll l D cI sd ad o_C o_X o_L o_N o_U o_O o_E o_Q o_V o_T o_I 56 1 a1 (-1) r32 hcr32) (cwV2 hts q1559 mvX8_itemAll rfl rfl ⟨(Nat.le_of_ble_eq_true rfl), (Nat.le_of_ble_eq_true rfl)⟩) hK hE hA hP hD hS 0 (T := TX8) (N := 48) (ci := 8) rfl rfl [0, 5, 6, 7, 8, 9, 10, 11, 13, 14] rfl (by decide) (mrgE rfl rfl) rfl rfl rfl rfl rfl hl.1 (Nat.le_of_ble_eq_true rfl) dX8_openRung_187 ⟨Nat.zero_le _, Nat.zero_le _⟩ (fun H locs hP hD hS => ?_)
      refine lv_aload_n hx hb dX8_openRung_190 rfl (lv_at hl 1 rfl) ?_
      refine lv_iconst (v := 0) hx hb dX8_openRung_191 (by decide) ?_
      refine lv_bipush (v := 55) hx hb dX8_openRung_192 (by decide) ?_
      obtain ⟨r33, hcr33, hM⟩ := ob_use hM
      refine cl_V (As := [.int 0, .int 55]) (rest := []) (wM_CTVI cI ad o_X o_L o_N o_T o_U o_O o_E o_Q o_V r33 o_C) [] ⟨hx, hb, hml, hown, hts⟩ (c_Model_item l D cI sd ad o_C o_X o_L o_N o_T o_U o_O o_E o_Q o_V r32 0 55 r33 hcr33) (cwV2 hts q1512 mvX8_item rfl rfl ⟨(Nat.le_of_ble_eq_true rfl), (Nat.le_of_ble_eq_true rfl)⟩) hK hE hA hP hD hS 0 (T := TX8) (N := 48) (ci := 8) rfl rfl [0, 13, 14] rfl (by decide) rfl rfl rfl rfl rfl rfl hl.1 (Nat.le_of_ble_eq_true rfl) dX8_openRung_194 ⟨Nat.zero_le _, Nat.zero_le _⟩ (fun H locs hP hD hS => ?_)
      refine lv_goto (tgt := 206) hx hb dX8_openRung_197 (by decide) ?_
      cases hM
      exact rt_v hx hb hr hlk hP hD hS rfl dX8_openRung_206
  replace hM := if_f c22 hM
  refine lv_tableOut (tgt := 200) hx hb dX8_openRung_13 (by have := lv_neT c4 (show (22 : Int32).toInt = 22 by decide); have := lv_neT c6 (show (23 : Int32).toInt = 23 by decide); have := lv_neT c8 (show (24 : Int32).toInt = 24 by decide); have := lv_neT c10 (show (25 : Int32).toInt = 25 by decide); have := lv_neT c18 (show (26 : Int32).toInt = 26 by decide); have := lv_neT c20 (show (27 : Int32).toInt = 27 by decide); have := lv_neT c22 (show (28 : Int32).toInt = 28 by decide); omega) (by decide) ?_
  refine lv_aload_n hx hb dX8_openRung_200 rfl (lv_at hl 1 rfl) ?_
  refine lv_bipush (v := 71) hx hb dX8_openRung_201 (by decide) ?_
  obtain ⟨r34, hcr34, hM⟩ := ob_use hM
  refine cl_V (As := [.int 71]) (rest := []) (wM_CTVI cI ad o_X o_L o_N o_T o_U o_O o_E o_Q r34 o_I o_C) [] ⟨hx, hb, hml, hown, hts⟩ (c_Model_putToken l D cI sd ad o_X o_L o_N o_T o_U o_O o_E o_Q o_I o_C o_V 71 r34 hcr34) (cwV2 hts q1520 mvX8_putToken rfl rfl ⟨(Nat.le_of_ble_eq_true rfl), (Nat.le_of_ble_eq_true rfl)⟩) hK hE hA hP hD hS 0 (T := TX8) (N := 48) (ci := 8) rfl rfl [0, 1, 2, 3, 4, 12] rfl (by decide) (mrgE rfl rfl) rfl rfl rfl rfl rfl hl.1 (Nat.le_of_ble_eq_true rfl) dX8_openRung_203 ⟨Nat.zero_le _, Nat.zero_le _⟩ (fun H locs hP hD hS => ?_)
  cases hM
  exact rt_v hx hb hr hlk hP hD hS rfl dX8_openRung_206

set_option maxHeartbeats 4000000 in
set_option maxRecDepth 100000 in
theorem c_Model_openBlock (l : Launch) (D : va_G) (cI : ClassId) (sd : Nat → Nat) (ad : Nat → Nat) (o_X : S_MX) (o_L : S_ML) (o_U : S_MU) (o_O : S_MO) (o_E : S_ME) (o_Q : S_MQ) (o_C : S_MC) (o_N : S_MN) (o_T : S_MT) (o_V : S_MV) (o_I : S_MI) (a1 : Int32) (res : S_MV × S_MI) (hM : f_Model_openBlock o_C o_N o_T o_V o_I a1 = some res) : Ctr l D cI sd yX8_openBlock (wsM yX8_openBlock cX8_openBlock 2 (Option.none : Option Jvm.ClassFile.FieldType)) { frames := 4, cells := 0, slots := 0, locals := 83 } [.ref (ad 100), .int a1] (wM_CNTVI cI ad o_X o_L o_N o_T o_U o_O o_E o_Q o_V o_I o_C) (wM_CNTVI cI ad o_X o_L o_N o_T o_U o_O o_E o_Q res.1 res.2 o_C) none := by
  refine Ctr.of (cc := cX8_openBlock) (maxL := 2) (own := RX8) (by decide +kernel) rfl rfl (Nat.le_of_ble_eq_true rfl) ?_
  intro p e s m below meth c A ls hx hb hr hml hown hts hlk hK hE hA hP hD hS hl
  have hl : lv_has ls 2 [(0, .ref (ad 100)), (1, .int a1)] := hl
  unfold f_Model_openBlock at hM
  refine lv_aload_n hx hb dX8_openBlock_0 rfl (lv_at hl 0 rfl) ?_
  refine va_get (D := D) (ci := 8) (v := .ref (ad 108)) (C := RX8) (T := TX8) (N := 48) hx hb hts layX8 hown hK hP 0 rfl rfl 17 (by decide) (hts _ (inA q995)) (fun _ h9 => h9) rfl dX8_openBlock_1 ?_
  refine lv_iload_n hx hb dX8_openBlock_4 rfl (lv_at hl 1 rfl) ?_
  obtain ⟨b1, hM⟩ := gd_use hM
  refine va_iald hx hb hK hP 7 0 rfl rfl b1 dX8_openBlock_5 ?_
  by_cases c2 : (o_T.2.2.1 a1.toNatClampNeg) = 1
  · replace hM := if_t c2 hM
    refine lv_tableIn (tgt := 60) hx hb dX8_openBlock_6 (by rw [c2]; decide) (by rw [c2]; decide) (by rw [c2]; rfl) (by decide) ?_
    refine lv_aload_n hx hb dX8_openBlock_60 rfl (lv_at hl 0 rfl) ?_
    refine lv_iload_n hx hb dX8_openBlock_61 rfl (lv_at hl 1 rfl) ?_
    refine lv_iconst (v := 0) hx hb dX8_openBlock_62 (by decide) ?_
    refine lv_iconst (v := 1) hx hb dX8_openBlock_63 (by decide) ?_
    obtain ⟨r3, hcr3, hM⟩ := ob_use hM
    refine cl_V (As := [.int a1, .int 0, .int 1]) (rest := []) (wM_CNTVI cI ad o_X o_L o_N o_T o_U o_O o_E o_Q o_V r3 o_C) [] ⟨hx, hb, hml, hown, hts⟩ (c_Model_itemBlock l D cI sd ad o_C o_X o_L o_N o_U o_O o_E o_Q o_V o_T o_I a1 0 1 r3 hcr3) (cwV2 hts q1551 mvX8_itemBlock rfl rfl ⟨(Nat.le_of_ble_eq_true rfl), (Nat.le_of_ble_eq_true rfl)⟩) hK hE hA hP hD hS 0 (T := TX8) (N := 48) (ci := 8) rfl rfl [0, 7, 8, 9, 10, 11, 12, 13, 15, 16] rfl (by decide) (mrgE rfl rfl) rfl rfl rfl rfl rfl hl.1 (Nat.le_of_ble_eq_true rfl) dX8_openBlock_64 ⟨Nat.zero_le _, Nat.zero_le _⟩ (fun H locs hP hD hS => ?_)
    refine lv_goto (tgt := 199) hx hb dX8_openBlock_67 (by decide) ?_
    cases hM
    exact rt_v hx hb hr hlk hP hD hS rfl dX8_openBlock_199
  replace hM := if_f c2 hM
  by_cases c4 : (o_T.2.2.1 a1.toNatClampNeg) = 2
  · replace hM := if_t c4 hM
    refine lv_tableIn (tgt := 70) hx hb dX8_openBlock_6 (by rw [c4]; decide) (by rw [c4]; decide) (by rw [c4]; rfl) (by decide) ?_
    refine lv_aload_n hx hb dX8_openBlock_70 rfl (lv_at hl 0 rfl) ?_
    refine lv_iload_n hx hb dX8_openBlock_71 rfl (lv_at hl 1 rfl) ?_
    refine lv_iconst (v := 2) hx hb dX8_openBlock_72 (by decide) ?_
    refine lv_iconst (v := 3) hx hb dX8_openBlock_73 (by decide) ?_
    obtain ⟨r5, hcr5, hM⟩ := ob_use hM
    refine cl_V (As := [.int a1, .int 2, .int 3]) (rest := []) (wM_CNTVI cI ad o_X o_L o_N o_T o_U o_O o_E o_Q o_V r5 o_C) [] ⟨hx, hb, hml, hown, hts⟩ (c_Model_itemBlock l D cI sd ad o_C o_X o_L o_N o_U o_O o_E o_Q o_V o_T o_I a1 2 3 r5 hcr5) (cwV2 hts q1551 mvX8_itemBlock rfl rfl ⟨(Nat.le_of_ble_eq_true rfl), (Nat.le_of_ble_eq_true rfl)⟩) hK hE hA hP hD hS 0 (T := TX8) (N := 48) (ci := 8) rfl rfl [0, 7, 8, 9, 10, 11, 12, 13, 15, 16] rfl (by decide) (mrgE rfl rfl) rfl rfl rfl rfl rfl hl.1 (Nat.le_of_ble_eq_true rfl) dX8_openBlock_74 ⟨Nat.zero_le _, Nat.zero_le _⟩ (fun H locs hP hD hS => ?_)
    refine lv_goto (tgt := 199) hx hb dX8_openBlock_77 (by decide) ?_
    cases hM
    exact rt_v hx hb hr hlk hP hD hS rfl dX8_openBlock_199
  replace hM := if_f c4 hM
  by_cases c6 : (o_T.2.2.1 a1.toNatClampNeg) = 3
  · replace hM := if_t c6 hM
    refine lv_tableIn (tgt := 80) hx hb dX8_openBlock_6 (by rw [c6]; decide) (by rw [c6]; decide) (by rw [c6]; rfl) (by decide) ?_
    refine lv_aload_n hx hb dX8_openBlock_80 rfl (lv_at hl 0 rfl) ?_
    refine lv_iload_n hx hb dX8_openBlock_81 rfl (lv_at hl 1 rfl) ?_
    refine lv_iconst (v := 4) hx hb dX8_openBlock_82 (by decide) ?_
    refine lv_iconst (v := 5) hx hb dX8_openBlock_83 (by decide) ?_
    obtain ⟨r7, hcr7, hM⟩ := ob_use hM
    refine cl_V (As := [.int a1, .int 4, .int 5]) (rest := []) (wM_CNTVI cI ad o_X o_L o_N o_T o_U o_O o_E o_Q o_V r7 o_C) [] ⟨hx, hb, hml, hown, hts⟩ (c_Model_itemBlock l D cI sd ad o_C o_X o_L o_N o_U o_O o_E o_Q o_V o_T o_I a1 4 5 r7 hcr7) (cwV2 hts q1551 mvX8_itemBlock rfl rfl ⟨(Nat.le_of_ble_eq_true rfl), (Nat.le_of_ble_eq_true rfl)⟩) hK hE hA hP hD hS 0 (T := TX8) (N := 48) (ci := 8) rfl rfl [0, 7, 8, 9, 10, 11, 12, 13, 15, 16] rfl (by decide) (mrgE rfl rfl) rfl rfl rfl rfl rfl hl.1 (Nat.le_of_ble_eq_true rfl) dX8_openBlock_84 ⟨Nat.zero_le _, Nat.zero_le _⟩ (fun H locs hP hD hS => ?_)
    refine lv_goto (tgt := 199) hx hb dX8_openBlock_87 (by decide) ?_
    cases hM
    exact rt_v hx hb hr hlk hP hD hS rfl dX8_openBlock_199
  replace hM := if_f c6 hM
  by_cases c8 : (o_T.2.2.1 a1.toNatClampNeg) = 4
  · replace hM := if_t c8 hM
    refine lv_tableIn (tgt := 90) hx hb dX8_openBlock_6 (by rw [c8]; decide) (by rw [c8]; decide) (by rw [c8]; rfl) (by decide) ?_
    refine lv_aload_n hx hb dX8_openBlock_90 rfl (lv_at hl 0 rfl) ?_
    refine lv_bipush (v := 9) hx hb dX8_openBlock_91 (by decide) ?_
    refine lv_iconst (v := 2) hx hb dX8_openBlock_93 (by decide) ?_
    refine lv_iload_n hx hb dX8_openBlock_94 rfl (lv_at hl 1 rfl) ?_
    refine lv_bipush (v := 6) hx hb dX8_openBlock_95 (by decide) ?_
    refine lv_aload_n hx hb dX8_openBlock_97 rfl (lv_at hl 0 rfl) ?_
    refine va_get (D := D) (ci := 8) (v := .ref (ad 110)) (C := RX8) (T := TX8) (N := 48) hx hb hts layX8 hown hK hP 0 rfl rfl 19 (by decide) (hts _ (inA q997)) (fun _ h9 => h9) rfl dX8_openBlock_98 ?_
    refine lv_iload_n hx hb dX8_openBlock_101 rfl (lv_at hl 1 rfl) ?_
    obtain ⟨b9, hM⟩ := gd_use hM
    refine va_iald hx hb hK hP 9 0 rfl rfl b9 dX8_openBlock_102 ?_
    refine lv_iadd hx hb dX8_openBlock_103 ?_
    obtain ⟨r10, hcr10, hM⟩ := ob_use hM
    refine cl_V (As := [.int 9, .int 2, .int a1, .int (6 + (o_T.2.2.2.2.1 a1.toNatClampNeg))]) (rest := []) (wM_CNTVI cI ad o_X o_L o_N o_T o_U o_O o_E o_Q o_V r10 o_C) [] ⟨hx, hb, hml, hown, hts⟩ (c_Model_itemAll l D cI sd ad o_C o_X o_L o_N o_U o_O o_E o_Q o_V o_T o_I 9 2 a1 (6 + (o_T.2.2.2.2.1 a1.toNatClampNeg)) r10 hcr10) (cwV2 hts q1559 mvX8_itemAll rfl rfl ⟨(Nat.le_of_ble_eq_true rfl), (Nat.le_of_ble_eq_true rfl)⟩) hK hE hA hP hD hS 0 (T := TX8) (N := 48) (ci := 8) rfl rfl [0, 7, 8, 9, 10, 11, 12, 13, 15, 16] rfl (by decide) (mrgE rfl rfl) rfl rfl rfl rfl rfl hl.1 (Nat.le_of_ble_eq_true rfl) dX8_openBlock_104 ⟨Nat.zero_le _, Nat.zero_le _⟩ (fun H locs hP hD hS => ?_)
    refine lv_goto (tgt := 199) hx hb dX8_openBlock_107 (by decide) ?_
    cases hM
    exact rt_v hx hb hr hlk hP hD hS rfl dX8_openBlock_199
  replace hM := if_f c8 hM
  by_cases c11 : (o_T.2.2.1 a1.toNatClampNeg) = 5
  · replace hM := if_t c11 hM
    refine lv_tableIn (tgt := 110) hx hb dX8_openBlock_6 (by rw [c11]; decide) (by rw [c11]; decide) (by rw [c11]; rfl) (by decide) ?_
    refine lv_aload_n hx hb dX8_openBlock_110 rfl (lv_at hl 0 rfl) ?_
    refine lv_bipush (v := 7) hx hb dX8_openBlock_111 (by decide) ?_
    refine lv_aload_n hx hb dX8_openBlock_113 rfl (lv_at hl 0 rfl) ?_
    refine va_get (D := D) (ci := 8) (v := .ref (ad 114)) (C := RX8) (T := TX8) (N := 48) hx hb hts layX8 hown hK hP 0 rfl rfl 23 (by decide) (hts _ (inA q1001)) (fun _ h9 => h9) rfl dX8_openBlock_114 ?_
    refine lv_aload_n hx hb dX8_openBlock_117 rfl (lv_at hl 0 rfl) ?_
    refine va_get (D := D) (ci := 8) (v := .ref (ad 112)) (C := RX8) (T := TX8) (N := 48) hx hb hts layX8 hown hK hP 0 rfl rfl 21 (by decide) (hts _ (inA q999)) (fun _ h9 => h9) rfl dX8_openBlock_118 ?_
    refine lv_iload_n hx hb dX8_openBlock_121 rfl (lv_at hl 1 rfl) ?_
    obtain ⟨b12, hM⟩ := gd_use hM
    refine va_iald hx hb hK hP 11 0 rfl rfl b12 dX8_openBlock_122 ?_
    obtain ⟨b13, hM⟩ := gd_use hM
    refine va_iald hx hb hK hP 13 0 rfl rfl b13 dX8_openBlock_123 ?_
    obtain ⟨r14, hcr14, hM⟩ := ob_use hM
    refine cl_V (As := [.int 7, .int (o_T.2.2.2.2.2.2.2.2 (o_T.2.2.2.2.2.2.1 a1.toNatClampNeg).toNatClampNeg)]) (rest := []) (wM_CNTVI cI ad o_X o_L o_N o_T o_U o_O o_E o_Q o_V r14 o_C) [] ⟨hx, hb, hml, hown, hts⟩ (c_Model_item l D cI sd ad o_C o_X o_L o_N o_T o_U o_O o_E o_Q o_V o_I 7 (o_T.2.2.2.2.2.2.2.2 (o_T.2.2.2.2.2.2.1 a1.toNatClampNeg).toNatClampNeg) r14 hcr14) (cwV2 hts q1512 mvX8_item rfl rfl ⟨(Nat.le_of_ble_eq_true rfl), (Nat.le_of_ble_eq_true rfl)⟩) hK hE hA hP hD hS 0 (T := TX8) (N := 48) (ci := 8) rfl rfl [0, 15, 16] rfl (by decide) rfl rfl rfl rfl rfl rfl hl.1 (Nat.le_of_ble_eq_true rfl) dX8_openBlock_124 ⟨Nat.zero_le _, Nat.zero_le _⟩ (fun H locs hP hD hS => ?_)
    refine lv_aload_n hx hb dX8_openBlock_127 rfl (lv_at hl 0 rfl) ?_
    refine lv_iconst (v := 1) hx hb dX8_openBlock_128 (by decide) ?_
    refine lv_aload_n hx hb dX8_openBlock_129 rfl (lv_at hl 0 rfl) ?_
    refine va_get (D := D) (ci := 8) (v := .ref (ad 112)) (C := RX8) (T := TX8) (N := 48) hx hb hts layX8 hown hK hP 0 rfl rfl 21 (by decide) (hts _ (inA q999)) (fun _ h9 => h9) rfl dX8_openBlock_130 ?_
    refine lv_iload_n hx hb dX8_openBlock_133 rfl (lv_at hl 1 rfl) ?_
    obtain ⟨b15, hM⟩ := gd_use hM
    refine va_iald hx hb hK hP 11 0 rfl rfl b15 dX8_openBlock_134 ?_
    obtain ⟨r16, hcr16, hM⟩ := ob_use hM
    refine cl_V (As := [.int 1, .int (o_T.2.2.2.2.2.2.1 a1.toNatClampNeg)]) (rest := []) (wM_CNTVI cI ad o_X o_L o_N o_T o_U o_O o_E o_Q o_V r16 o_C) [] ⟨hx, hb, hml, hown, hts⟩ (c_Model_item l D cI sd ad o_C o_X o_L o_N o_T o_U o_O o_E o_Q o_V r14 1 (o_T.2.2.2.2.2.2.1 a1.toNatClampNeg) r16 hcr16) (cwV2 hts q1512 mvX8_item rfl rfl ⟨(Nat.le_of_ble_eq_true rfl), (Nat.le_of_ble_eq_true rfl)⟩) hK hE hA hP hD hS 0 (T := TX8) (N := 48) (ci := 8) rfl rfl [0, 15, 16] rfl (by decide) rfl rfl rfl rfl rfl rfl hl.1 (Nat.le_of_ble_eq_true rfl) dX8_openBlock_135 ⟨Nat.zero_le _, Nat.zero_le _⟩ (fun H locs hP hD hS => ?_)
    refine lv_goto (tgt := 199) hx hb dX8_openBlock_138 (by decide) ?_
    cases hM
    exact rt_v hx hb hr hlk hP hD hS rfl dX8_openBlock_199
  replace hM := if_f c11 hM
  by_cases c17 : (o_T.2.2.1 a1.toNatClampNeg) = 6
  · replace hM := if_t c17 hM
    refine lv_tableIn (tgt := 178) hx hb dX8_openBlock_6 (by rw [c17]; decide) (by rw [c17]; decide) (by rw [c17]; rfl) (by decide) ?_
    refine lv_aload_n hx hb dX8_openBlock_178 rfl (lv_at hl 0 rfl) ?_
    refine lv_aload_n hx hb dX8_openBlock_179 rfl (lv_at hl 0 rfl) ?_
    refine va_get (D := D) (ci := 8) (v := .ref (ad 110)) (C := RX8) (T := TX8) (N := 48) hx hb hts layX8 hown hK hP 0 rfl rfl 19 (by decide) (hts _ (inA q997)) (fun _ h9 => h9) rfl dX8_openBlock_180 ?_
    refine lv_iload_n hx hb dX8_openBlock_183 rfl (lv_at hl 1 rfl) ?_
    obtain ⟨b18, hM⟩ := gd_use hM
    refine va_iald hx hb hK hP 9 0 rfl rfl b18 dX8_openBlock_184 ?_
    obtain ⟨r19, hcr19, hM⟩ := ob_use hM
    refine cl_V (As := [.int (o_T.2.2.2.2.1 a1.toNatClampNeg)]) (rest := []) (wM_CNTVI cI ad o_X o_L o_N o_T o_U o_O o_E o_Q r19 o_I o_C) [] ⟨hx, hb, hml, hown, hts⟩ (c_Model_putName l D cI sd ad o_C o_X o_L o_T o_U o_O o_E o_Q o_I o_N o_V (o_T.2.2.2.2.1 a1.toNatClampNeg) r19 hcr19) (cwV2 hts q1535 mvX8_putName rfl rfl ⟨(Nat.le_of_ble_eq_true rfl), (Nat.le_of_ble_eq_true rfl)⟩) hK hE hA hP hD hS 0 (T := TX8) (N := 48) (ci := 8) rfl rfl [0, 5, 6, 14] rfl (by decide) rfl rfl rfl rfl rfl rfl hl.1 (Nat.le_of_ble_eq_true rfl) dX8_openBlock_185 ⟨Nat.zero_le _, Nat.zero_le _⟩ (fun H locs hP hD hS => ?_)
    refine lv_goto (tgt := 199) hx hb dX8_openBlock_188 (by decide) ?_
    cases hM
    exact rt_v hx hb hr hlk hP hD hS rfl dX8_openBlock_199
  replace hM := if_f c17 hM
  by_cases c20 : (o_T.2.2.1 a1.toNatClampNeg) = 7
  · replace hM := if_t c20 hM
    refine lv_tableIn (tgt := 141) hx hb dX8_openBlock_6 (by rw [c20]; decide) (by rw [c20]; decide) (by rw [c20]; rfl) (by decide) ?_
    refine lv_aload_n hx hb dX8_openBlock_141 rfl (lv_at hl 0 rfl) ?_
    refine lv_aload_n hx hb dX8_openBlock_142 rfl (lv_at hl 0 rfl) ?_
    refine va_get (D := D) (ci := 8) (v := .ref (ad 110)) (C := RX8) (T := TX8) (N := 48) hx hb hts layX8 hown hK hP 0 rfl rfl 19 (by decide) (hts _ (inA q997)) (fun _ h9 => h9) rfl dX8_openBlock_143 ?_
    refine lv_iload_n hx hb dX8_openBlock_146 rfl (lv_at hl 1 rfl) ?_
    obtain ⟨b21, hM⟩ := gd_use hM
    refine va_iald hx hb hK hP 9 0 rfl rfl b21 dX8_openBlock_147 ?_
    obtain ⟨r22, hcr22, hM⟩ := ob_use hM
    refine cl_V (As := [.int (o_T.2.2.2.2.1 a1.toNatClampNeg)]) (rest := []) (wM_CNTVI cI ad o_X o_L o_N o_T o_U o_O o_E o_Q r22 o_I o_C) [] ⟨hx, hb, hml, hown, hts⟩ (c_Model_putPlace l D cI sd ad o_X o_L o_N o_T o_U o_O o_E o_Q o_I o_C o_V (o_T.2.2.2.2.1 a1.toNatClampNeg) r22 hcr22) (cwV2 hts q1563 mvX8_putPlace rfl rfl ⟨(Nat.le_of_ble_eq_true rfl), (Nat.le_of_ble_eq_true rfl)⟩) hK hE hA hP hD hS 0 (T := TX8) (N := 48) (ci := 8) rfl rfl [0, 1, 2, 3, 4, 14] rfl (by decide) (mrgE rfl rfl) rfl rfl rfl rfl rfl hl.1 (Nat.le_of_ble_eq_true rfl) dX8_openBlock_148 ⟨Nat.zero_le _, Nat.zero_le _⟩ (fun H locs hP hD hS => ?_)
    refine lv_goto (tgt := 199) hx hb dX8_openBlock_151 (by decide) ?_
    cases hM
    exact rt_v hx hb hr hlk hP hD hS rfl dX8_openBlock_199
  replace hM := if_f c20 hM
  by_cases c23 : (o_T.2.2.1 a1.toNatClampNeg) = 8
  · replace hM := if_t c23 hM
    refine lv_tableIn (tgt := 154) hx hb dX8_openBlock_6 (by rw [c23]; decide) (by rw [c23]; decide) (by rw [c23]; rfl) (by decide) ?_
    refine lv_aload_n hx hb dX8_openBlock_154 rfl (lv_at hl 0 rfl) ?_
    refine lv_bipush (v := 11) hx hb dX8_openBlock_155 (by decide) ?_
    refine lv_aload_n hx hb dX8_openBlock_157 rfl (lv_at hl 0 rfl) ?_
    refine va_get (D := D) (ci := 8) (v := .ref (ad 110)) (C := RX8) (T := TX8) (N := 48) hx hb hts layX8 hown hK hP 0 rfl rfl 19 (by decide) (hts _ (inA q997)) (fun _ h9 => h9) rfl dX8_openBlock_158 ?_
    refine lv_iload_n hx hb dX8_openBlock_161 rfl (lv_at hl 1 rfl) ?_
    obtain ⟨b24, hM⟩ := gd_use hM
    refine va_iald hx hb hK hP 9 0 rfl rfl b24 dX8_openBlock_162 ?_
    refine lv_iadd hx hb dX8_openBlock_163 ?_
    obtain ⟨r25, hcr25, hM⟩ := ob_use hM
    refine cl_V (As := [.int (11 + (o_T.2.2.2.2.1 a1.toNatClampNeg))]) (rest := []) (wM_CNTVI cI ad o_X o_L o_N o_T o_U o_O o_E o_Q r25 o_I o_C) [] ⟨hx, hb, hml, hown, hts⟩ (c_Model_putToken l D cI sd ad o_X o_L o_N o_T o_U o_O o_E o_Q o_I o_C o_V (11 + (o_T.2.2.2.2.1 a1.toNatClampNeg)) r25 hcr25) (cwV2 hts q1520 mvX8_putToken rfl rfl ⟨(Nat.le_of_ble_eq_true rfl), (Nat.le_of_ble_eq_true rfl)⟩) hK hE hA hP hD hS 0 (T := TX8) (N := 48) (ci := 8) rfl rfl [0, 1, 2, 3, 4, 14] rfl (by decide) (mrgE rfl rfl) rfl rfl rfl rfl rfl hl.1 (Nat.le_of_ble_eq_true rfl) dX8_openBlock_164 ⟨Nat.zero_le _, Nat.zero_le _⟩ (fun H locs hP hD hS => ?_)
    refine lv_goto (tgt := 199) hx hb dX8_openBlock_167 (by decide) ?_
    cases hM
    exact rt_v hx hb hr hlk hP hD hS rfl dX8_openBlock_199
  replace hM := if_f c23 hM
  by_cases c26 : (o_T.2.2.1 a1.toNatClampNeg) = 9
  · replace hM := if_t c26 hM
    refine lv_tableIn (tgt := 170) hx hb dX8_openBlock_6 (by rw [c26]; decide) (by rw [c26]; decide) (by rw [c26]; rfl) (by decide) ?_
    refine lv_aload_n hx hb dX8_openBlock_170 rfl (lv_at hl 0 rfl) ?_
    refine lv_iload_n hx hb dX8_openBlock_171 rfl (lv_at hl 1 rfl) ?_
    obtain ⟨r27, hcr27, hM⟩ := ob_use hM
    refine cl_V (As := [.int a1]) (rest := []) (wM_CNTVI cI ad o_X o_L o_N o_T o_U o_O o_E o_Q o_V r27 o_C) [] ⟨hx, hb, hml, hown, hts⟩ (c_Model_itemArray l D cI sd ad o_C o_X o_L o_N o_U o_O o_E o_Q o_V o_T o_I a1 r27 hcr27) (cwV2 hts q1567 mvX8_itemArray rfl rfl ⟨(Nat.le_of_ble_eq_true rfl), (Nat.le_of_ble_eq_true rfl)⟩) hK hE hA hP hD hS 0 (T := TX8) (N := 48) (ci := 8) rfl rfl [0, 7, 8, 9, 10, 11, 12, 13, 15, 16] rfl (by decide) (mrgE rfl rfl) rfl rfl rfl rfl rfl hl.1 (Nat.le_of_ble_eq_true rfl) dX8_openBlock_172 ⟨Nat.zero_le _, Nat.zero_le _⟩ (fun H locs hP hD hS => ?_)
    refine lv_goto (tgt := 199) hx hb dX8_openBlock_175 (by decide) ?_
    cases hM
    exact rt_v hx hb hr hlk hP hD hS rfl dX8_openBlock_199
  replace hM := if_f c26 hM
  by_cases c28 : (o_T.2.2.1 a1.toNatClampNeg) = 10
  · replace hM := if_t c28 hM
    refine lv_tableIn (tgt := 178) hx hb dX8_openBlock_6 (by rw [c28]; decide) (by rw [c28]; decide) (by rw [c28]; rfl) (by decide) ?_
    refine lv_aload_n hx hb dX8_openBlock_178 rfl (lv_at hl 0 rfl) ?_
    refine lv_aload_n hx hb dX8_openBlock_179 rfl (lv_at hl 0 rfl) ?_
    refine va_get (D := D) (ci := 8) (v := .ref (ad 110)) (C := RX8) (T := TX8) (N := 48) hx hb hts layX8 hown hK hP 0 rfl rfl 19 (by decide) (hts _ (inA q997)) (fun _ h9 => h9) rfl dX8_openBlock_180 ?_
    refine lv_iload_n hx hb dX8_openBlock_183 rfl (lv_at hl 1 rfl) ?_
    obtain ⟨b29, hM⟩ := gd_use hM
    refine va_iald hx hb hK hP 9 0 rfl rfl b29 dX8_openBlock_184 ?_
    obtain ⟨r30, hcr30, hM⟩ := ob_use hM
    refine cl_V (As := [.int (o_T.2.2.2.2.1 a1.toNatClampNeg)]) (rest := []) (wM_CNTVI cI ad o_X o_L o_N o_T o_U o_O o_E o_Q r30 o_I o_C) [] ⟨hx, hb, hml, hown, hts⟩ (c_Model_putName l D cI sd ad o_C o_X o_L o_T o_U o_O o_E o_Q o_I o_N o_V (o_T.2.2.2.2.1 a1.toNatClampNeg) r30 hcr30) (cwV2 hts q1535 mvX8_putName rfl rfl ⟨(Nat.le_of_ble_eq_true rfl), (Nat.le_of_ble_eq_true rfl)⟩) hK hE hA hP hD hS 0 (T := TX8) (N := 48) (ci := 8) rfl rfl [0, 5, 6, 14] rfl (by decide) rfl rfl rfl rfl rfl rfl hl.1 (Nat.le_of_ble_eq_true rfl) dX8_openBlock_185 ⟨Nat.zero_le _, Nat.zero_le _⟩ (fun H locs hP hD hS => ?_)
    refine lv_goto (tgt := 199) hx hb dX8_openBlock_188 (by decide) ?_
    cases hM
    exact rt_v hx hb hr hlk hP hD hS rfl dX8_openBlock_199
  replace hM := if_f c28 hM
  refine lv_tableOut (tgt := 191) hx hb dX8_openBlock_6 (by have := lv_neT c2 (show (1 : Int32).toInt = 1 by decide); have := lv_neT c4 (show (2 : Int32).toInt = 2 by decide); have := lv_neT c6 (show (3 : Int32).toInt = 3 by decide); have := lv_neT c8 (show (4 : Int32).toInt = 4 by decide); have := lv_neT c11 (show (5 : Int32).toInt = 5 by decide); have := lv_neT c17 (show (6 : Int32).toInt = 6 by decide); have := lv_neT c20 (show (7 : Int32).toInt = 7 by decide); have := lv_neT c23 (show (8 : Int32).toInt = 8 by decide); have := lv_neT c26 (show (9 : Int32).toInt = 9 by decide); have := lv_neT c28 (show (10 : Int32).toInt = 10 by decide); omega) (by decide) ?_
  refine lv_aload_n hx hb dX8_openBlock_191 rfl (lv_at hl 0 rfl) ?_
  refine lv_iconst (v := (-1)) hx hb dX8_openBlock_192 (by decide) ?_
  refine lv_iconst (v := 2) hx hb dX8_openBlock_193 (by decide) ?_
  refine lv_iload_n hx hb dX8_openBlock_194 rfl (lv_at hl 1 rfl) ?_
  refine lv_iconst (v := (-1)) hx hb dX8_openBlock_195 (by decide) ?_
  obtain ⟨r31, hcr31, hM⟩ := ob_use hM
  refine cl_V (As := [.int (-1), .int 2, .int a1, .int (-1)]) (rest := []) (wM_CNTVI cI ad o_X o_L o_N o_T o_U o_O o_E o_Q o_V r31 o_C) [] ⟨hx, hb, hml, hown, hts⟩ (c_Model_itemAll l D cI sd ad o_C o_X o_L o_N o_U o_O o_E o_Q o_V o_T o_I (-1) 2 a1 (-1) r31 hcr31) (cwV2 hts q1559 mvX8_itemAll rfl rfl ⟨(Nat.le_of_ble_eq_true rfl), (Nat.le_of_ble_eq_true rfl)⟩) hK hE hA hP hD hS 0 (T := TX8) (N := 48) (ci := 8) rfl rfl [0, 7, 8, 9, 10, 11, 12, 13, 15, 16] rfl (by decide) (mrgE rfl rfl) rfl rfl rfl rfl rfl hl.1 (Nat.le_of_ble_eq_true rfl) dX8_openBlock_196 ⟨Nat.zero_le _, Nat.zero_le _⟩ (fun H locs hP hD hS => ?_)
  cases hM
  exact rt_v hx hb hr hlk hP hD hS rfl dX8_openBlock_199

set_option maxHeartbeats 4000000 in
set_option maxRecDepth 100000 in
theorem c_Model_openNode (l : Launch) (D : va_G) (cI : ClassId) (sd : Nat → Nat) (ad : Nat → Nat) (o_X : S_MX) (o_L : S_ML) (o_U : S_MU) (o_O : S_MO) (o_E : S_ME) (o_Q : S_MQ) (o_C : S_MC) (o_N : S_MN) (o_T : S_MT) (o_V : S_MV) (o_I : S_MI) (a1 : Int32) (res : S_MV × S_MI) (hM : f_Model_openNode o_C o_N o_T o_V o_I a1 = some res) : Ctr l D cI sd yX8_openNode (wsM yX8_openNode cX8_openNode 2 (Option.none : Option Jvm.ClassFile.FieldType)) { frames := 5, cells := 0, slots := 0, locals := 107 } [.ref (ad 100), .int a1] (wM_CNTVI cI ad o_X o_L o_N o_T o_U o_O o_E o_Q o_V o_I o_C) (wM_CNTVI cI ad o_X o_L o_N o_T o_U o_O o_E o_Q res.1 res.2 o_C) none := by
  refine Ctr.of (cc := cX8_openNode) (maxL := 2) (own := RX8) (by decide +kernel) rfl rfl (Nat.le_of_ble_eq_true rfl) ?_
  intro p e s m below meth c A ls hx hb hr hml hown hts hlk hK hE hA hP hD hS hl
  have hl : lv_has ls 2 [(0, .ref (ad 100)), (1, .int a1)] := hl
  unfold f_Model_openNode at hM
  refine lv_aload_n hx hb dX8_openNode_0 rfl (lv_at hl 0 rfl) ?_
  refine va_get (D := D) (ci := 8) (v := .ref (ad 108)) (C := RX8) (T := TX8) (N := 48) hx hb hts layX8 hown hK hP 0 rfl rfl 17 (by decide) (hts _ (inA q995)) (fun _ h9 => h9) rfl dX8_openNode_1 ?_
  refine lv_iload_n hx hb dX8_openNode_4 rfl (lv_at hl 1 rfl) ?_
  obtain ⟨b1, hM⟩ := gd_use hM
  refine va_iald hx hb hK hP 7 0 rfl rfl b1 dX8_openNode_5 ?_
  refine lv_bipush (v := 12) hx hb dX8_openNode_6 (by decide) ?_
  refine lv_icmp_ge (tgt := 19) hx hb dX8_openNode_8 (by decide) (fun c2 => ?_) (fun c2 => ?_)
  · replace hM := if_t c2 hM
    refine lv_aload_n hx hb dX8_openNode_19 rfl (lv_at hl 0 rfl) ?_
    refine va_get (D := D) (ci := 8) (v := .ref (ad 108)) (C := RX8) (T := TX8) (N := 48) hx hb hts layX8 hown hK hP 0 rfl rfl 17 (by decide) (hts _ (inA q995)) (fun _ h9 => h9) rfl dX8_openNode_20 ?_
    refine lv_iload_n hx hb dX8_openNode_23 rfl (lv_at hl 1 rfl) ?_
    obtain ⟨b3, hM⟩ := gd_use hM
    refine va_iald hx hb hK hP 7 0 rfl rfl b3 dX8_openNode_24 ?_
    refine lv_bipush (v := 22) hx hb dX8_openNode_25 (by decide) ?_
    refine lv_icmp_ge (tgt := 38) hx hb dX8_openNode_27 (by decide) (fun c4 => ?_) (fun c4 => ?_)
    · replace hM := if_t c4 hM
      refine lv_aload_n hx hb dX8_openNode_38 rfl (lv_at hl 0 rfl) ?_
      refine va_get (D := D) (ci := 8) (v := .ref (ad 108)) (C := RX8) (T := TX8) (N := 48) hx hb hts layX8 hown hK hP 0 rfl rfl 17 (by decide) (hts _ (inA q995)) (fun _ h9 => h9) rfl dX8_openNode_39 ?_
      refine lv_iload_n hx hb dX8_openNode_42 rfl (lv_at hl 1 rfl) ?_
      obtain ⟨b5, hM⟩ := gd_use hM
      refine va_iald hx hb hK hP 7 0 rfl rfl b5 dX8_openNode_43 ?_
      refine lv_bipush (v := 30) hx hb dX8_openNode_44 (by decide) ?_
      refine lv_icmp_ge (tgt := 57) hx hb dX8_openNode_46 (by decide) (fun c6 => ?_) (fun c6 => ?_)
      · replace hM := if_t c6 hM
        refine lv_aload_n hx hb dX8_openNode_57 rfl (lv_at hl 0 rfl) ?_
        refine lv_iload_n hx hb dX8_openNode_58 rfl (lv_at hl 1 rfl) ?_
        obtain ⟨r7, hcr7, hM⟩ := ob_use hM
        refine cl_V (As := [.int a1]) (rest := []) (wM_CNTVI cI ad o_X o_L o_N o_T o_U o_O o_E o_Q r7.1 r7.2 o_C) [] ⟨hx, hb, hml, hown, hts⟩ (c_Model_openOperand l D cI sd ad o_X o_L o_N o_U o_O o_E o_Q o_C o_T o_V o_I a1 r7 hcr7) (cwV2 hts q1583 mvX8_openOperand rfl rfl ⟨(Nat.le_of_ble_eq_true rfl), (Nat.le_of_ble_eq_true rfl)⟩) hK hE hA hP hD hS 0 (T := TX8) (N := 48) (ci := 8) rfl rfl [0, 1, 2, 3, 4, 7, 8, 9, 10, 11, 12, 13, 14, 15, 16] rfl (by decide) (mrgE rfl rfl) rfl rfl rfl rfl rfl hl.1 (Nat.le_of_ble_eq_true rfl) dX8_openNode_59 ⟨Nat.zero_le _, Nat.zero_le _⟩ (fun H locs hP hD hS => ?_)
        cases hM
        exact rt_v hx hb hr hlk hP hD hS rfl dX8_openNode_62
      · replace hM := if_f c6 hM
        refine lv_aload_n hx hb dX8_openNode_49 rfl (lv_at hl 0 rfl) ?_
        refine lv_iload_n hx hb dX8_openNode_50 rfl (lv_at hl 1 rfl) ?_
        obtain ⟨r8, hcr8, hM⟩ := ob_use hM
        refine cl_V (As := [.int a1]) (rest := []) (wM_CNTVI cI ad o_X o_L o_N o_T o_U o_O o_E o_Q r8.1 r8.2 o_C) [] ⟨hx, hb, hml, hown, hts⟩ (c_Model_openRung l D cI sd ad o_X o_L o_N o_U o_O o_E o_Q o_C o_T o_V o_I a1 r8 hcr8) (cwV2 hts q1579 mvX8_openRung rfl rfl ⟨(Nat.le_of_ble_eq_true rfl), (Nat.le_of_ble_eq_true rfl)⟩) hK hE hA hP hD hS 0 (T := TX8) (N := 48) (ci := 8) rfl rfl [0, 1, 2, 3, 4, 7, 8, 9, 10, 11, 12, 13, 14, 15, 16] rfl (by decide) (mrgE rfl rfl) rfl rfl rfl rfl rfl hl.1 (Nat.le_of_ble_eq_true rfl) dX8_openNode_51 ⟨Nat.zero_le _, Nat.zero_le _⟩ (fun H locs hP hD hS => ?_)
        refine lv_goto (tgt := 62) hx hb dX8_openNode_54 (by decide) ?_
        cases hM
        exact rt_v hx hb hr hlk hP hD hS rfl dX8_openNode_62
    · replace hM := if_f c4 hM
      refine lv_aload_n hx hb dX8_openNode_30 rfl (lv_at hl 0 rfl) ?_
      refine lv_iload_n hx hb dX8_openNode_31 rfl (lv_at hl 1 rfl) ?_
      obtain ⟨r9, hcr9, hM⟩ := ob_use hM
      refine cl_V (As := [.int a1]) (rest := []) (wM_CNTVI cI ad o_X o_L o_N o_T o_U o_O o_E o_Q o_V r9 o_C) [] ⟨hx, hb, hml, hown, hts⟩ (c_Model_openStatement l D cI sd ad o_C o_X o_L o_N o_U o_O o_E o_Q o_V o_T o_I a1 r9 hcr9) (cwV2 hts q1571 mvX8_openStatement rfl rfl ⟨(Nat.le_of_ble_eq_true rfl), (Nat.le_of_ble_eq_true rfl)⟩) hK hE hA hP hD hS 0 (T := TX8) (N := 48) (ci := 8) rfl rfl [0, 7, 8, 9, 10, 11, 12, 13, 15, 16] rfl (by decide) (mrgE rfl rfl) rfl rfl rfl rfl rfl hl.1 (Nat.le_of_ble_eq_true rfl) dX8_openNode_32 ⟨Nat.zero_le _, Nat.zero_le _⟩ (fun H locs hP hD hS => ?_)
      refine lv_goto (tgt := 62) hx hb dX8_openNode_35 (by decide) ?_
      cases hM
      exact rt_v hx hb hr hlk hP hD hS rfl dX8_openNode_62
  · replace hM := if_f c2 hM
    refine lv_aload_n hx hb dX8_openNode_11 rfl (lv_at hl 0 rfl) ?_
    refine lv_iload_n hx hb dX8_openNode_12 rfl (lv_at hl 1 rfl) ?_
    obtain ⟨r10, hcr10, hM⟩ := ob_use hM
    refine cl_V (As := [.int a1]) (rest := []) (wM_CNTVI cI ad o_X o_L o_N o_T o_U o_O o_E o_Q r10.1 r10.2 o_C) [] ⟨hx, hb, hml, hown, hts⟩ (c_Model_openBlock l D cI sd ad o_X o_L o_U o_O o_E o_Q o_C o_N o_T o_V o_I a1 r10 hcr10) (cwV2 hts q1547 mvX8_openBlock rfl rfl ⟨(Nat.le_of_ble_eq_true rfl), (Nat.le_of_ble_eq_true rfl)⟩) hK hE hA hP hD hS 0 (T := TX8) (N := 48) (ci := 8) rfl rfl [0, 1, 2, 3, 4, 5, 6, 7, 8, 9, 10, 11, 12, 13, 14, 15, 16] (rng_hi (n := 17) rfl rfl) (by decide) (rng_rep (n := 17) rfl rfl rfl) rfl rfl rfl rfl rfl hl.1 (Nat.le_of_ble_eq_true rfl) dX8_openNode_13 ⟨Nat.zero_le _, Nat.zero_le _⟩ (fun H locs hP hD hS => ?_)
    refine lv_goto (tgt := 62) hx hb dX8_openNode_16 (by decide) ?_
    cases hM
    exact rt_v hx hb hr hlk hP hD hS rfl dX8_openNode_62

set_option maxHeartbeats 4000000 in
set_option maxRecDepth 100000 in
theorem c_Model_openStatement (l : Launch) (D : va_G) (cI : ClassId) (sd : Nat → Nat) (ad : Nat → Nat) (o_C : S_MC) (o_X : S_MX) (o_L : S_ML) (o_N : S_MN) (o_U : S_MU) (o_O : S_MO) (o_E : S_ME) (o_Q : S_MQ) (o_V : S_MV) (o_T : S_MT) (o_I : S_MI) (a1 : Int32) (res : S_MI) (hM : f_Model_openStatement o_T o_I a1 = some res) : Ctr l D cI sd yX8_openStatement (wsM yX8_openStatement cX8_openStatement 2 (Option.none : Option Jvm.ClassFile.FieldType)) { frames := 2, cells := 0, slots := 0, locals := 46 } [.ref (ad 100), .int a1] (wM0 ad o_X o_L o_N o_T o_U o_O o_E o_Q o_V o_I ++ wMT cI ad o_T ++ wMI cI ad o_I) (wM0 ad o_X o_L o_N o_T o_U o_O o_E o_Q o_V res ++ wMT cI ad o_T ++ wMI cI ad res) none := by
  refine Ctr.of (cc := cX8_openStatement) (maxL := 2) (own := RX8) (by decide +kernel) rfl rfl (Nat.le_of_ble_eq_true rfl) ?_
  intro p e s m below meth c A ls hx hb hr hml hown hts hlk hK hE hA hP hD hS hl
  have hl : lv_has ls 2 [(0, .ref (ad 100)), (1, .int a1)] := hl
  unfold f_Model_openStatement at hM
  refine lv_aload_n hx hb dX8_openStatement_0 rfl (lv_at hl 0 rfl) ?_
  refine va_get (D := D) (ci := 8) (v := .ref (ad 108)) (C := RX8) (T := TX8) (N := 48) hx hb hts layX8 hown hK hP 0 rfl rfl 17 (by decide) (hts _ (inA q995)) (fun _ h9 => h9) rfl dX8_openStatement_1 ?_
  refine lv_iload_n hx hb dX8_openStatement_4 rfl (lv_at hl 1 rfl) ?_
  obtain ⟨b1, hM⟩ := gd_use hM
  refine va_iald hx hb hK hP 1 0 rfl rfl b1 dX8_openStatement_5 ?_
  by_cases c2 : (o_T.2.2.1 a1.toNatClampNeg) = 12
  · replace hM := if_t c2 hM
    refine lv_tableIn (tgt := 52) hx hb dX8_openStatement_6 (by rw [c2]; decide) (by rw [c2]; decide) (by rw [c2]; rfl) (by decide) ?_
    refine lv_aload_n hx hb dX8_openStatement_52 rfl (lv_at hl 0 rfl) ?_
    refine lv_iconst (v := 0) hx hb dX8_openStatement_53 (by decide) ?_
    refine lv_bipush (v := 60) hx hb dX8_openStatement_54 (by decide) ?_
    obtain ⟨r3, hcr3, hM⟩ := ob_use hM
    refine cl_V (As := [.int 0, .int 60]) (rest := []) (wM0 ad o_X o_L o_N o_T o_U o_O o_E o_Q o_V r3 ++ wMT cI ad o_T ++ wMI cI ad r3) [] ⟨hx, hb, hml, hown, hts⟩ (c_Model_item l D cI sd ad o_C o_X o_L o_N o_T o_U o_O o_E o_Q o_V o_I 0 60 r3 hcr3) (cwV2 hts q1512 mvX8_item rfl rfl ⟨(Nat.le_of_ble_eq_true rfl), (Nat.le_of_ble_eq_true rfl)⟩) hK hE hA hP hD hS 0 (T := TX8) (N := 48) (ci := 8) rfl rfl [0, 8, 9] rfl (by decide) rfl rfl rfl rfl rfl rfl hl.1 (Nat.le_of_ble_eq_true rfl) dX8_openStatement_56 ⟨Nat.zero_le _, Nat.zero_le _⟩ (fun H locs hP hD hS => ?_)
    refine lv_aload_n hx hb dX8_openStatement_59 rfl (lv_at hl 0 rfl) ?_
    refine lv_iconst (v := 1) hx hb dX8_openStatement_60 (by decide) ?_
    refine lv_aload_n hx hb dX8_openStatement_61 rfl (lv_at hl 0 rfl) ?_
    refine lv_iload_n hx hb dX8_openStatement_62 rfl (lv_at hl 1 rfl) ?_
    obtain ⟨r4, hcr4, hM⟩ := ob_use hM
    refine cl_V (As := [.int a1]) (rest := [.int 1, .ref (ad 100)]) (wM0 ad o_X o_L o_N o_T o_U o_O o_E o_Q o_V r3 ++ wMT cI ad o_T ++ wMI cI ad r3) (.int r4 :: [.int 1, .ref (ad 100)]) ⟨hx, hb, hml, hown, hts⟩ (c_Model_second l D cI sd ad o_C o_X o_L o_N o_U o_O o_E o_Q o_V r3 o_T a1 r4 hcr4) (cwV2 hts q1555 mvX8_second rfl rfl ⟨(Nat.le_of_ble_eq_true rfl), (Nat.le_of_ble_eq_true rfl)⟩) hK hE hA hP hD hS 0 (T := TX8) (N := 48) (ci := 8) rfl rfl [0, 1, 2, 3, 4, 5, 6, 7] rfl (by decide) rfl rfl rfl rfl rfl rfl hl.1 (Nat.le_of_ble_eq_true rfl) dX8_openStatement_63 ⟨Nat.zero_le _, Nat.zero_le _⟩ (fun H locs hP hD hS => ?_)
    obtain ⟨r5, hcr5, hM⟩ := ob_use hM
    refine cl_V (As := [.int 1, .int r4]) (rest := []) (wM0 ad o_X o_L o_N o_T o_U o_O o_E o_Q o_V r5 ++ wMT cI ad o_T ++ wMI cI ad r5) [] ⟨hx, hb, hml, hown, hts⟩ (c_Model_item l D cI sd ad o_C o_X o_L o_N o_T o_U o_O o_E o_Q o_V r3 1 r4 r5 hcr5) (cwV2 hts q1512 mvX8_item rfl rfl ⟨(Nat.le_of_ble_eq_true rfl), (Nat.le_of_ble_eq_true rfl)⟩) hK hE hA hP hD hS 0 (T := TX8) (N := 48) (ci := 8) rfl rfl [0, 8, 9] rfl (by decide) rfl rfl rfl rfl rfl rfl hl.1 (Nat.le_of_ble_eq_true rfl) dX8_openStatement_66 ⟨Nat.zero_le _, Nat.zero_le _⟩ (fun H locs hP hD hS => ?_)
    refine lv_aload_n hx hb dX8_openStatement_69 rfl (lv_at hl 0 rfl) ?_
    refine lv_iconst (v := 0) hx hb dX8_openStatement_70 (by decide) ?_
    refine lv_bipush (v := 50) hx hb dX8_openStatement_71 (by decide) ?_
    obtain ⟨r6, hcr6, hM⟩ := ob_use hM
    refine cl_V (As := [.int 0, .int 50]) (rest := []) (wM0 ad o_X o_L o_N o_T o_U o_O o_E o_Q o_V r6 ++ wMT cI ad o_T ++ wMI cI ad r6) [] ⟨hx, hb, hml, hown, hts⟩ (c_Model_item l D cI sd ad o_C o_X o_L o_N o_T o_U o_O o_E o_Q o_V r5 0 50 r6 hcr6) (cwV2 hts q1512 mvX8_item rfl rfl ⟨(Nat.le_of_ble_eq_true rfl), (Nat.le_of_ble_eq_true rfl)⟩) hK hE hA hP hD hS 0 (T := TX8) (N := 48) (ci := 8) rfl rfl [0, 8, 9] rfl (by decide) rfl rfl rfl rfl rfl rfl hl.1 (Nat.le_of_ble_eq_true rfl) dX8_openStatement_73 ⟨Nat.zero_le _, Nat.zero_le _⟩ (fun H locs hP hD hS => ?_)
    refine lv_aload_n hx hb dX8_openStatement_76 rfl (lv_at hl 0 rfl) ?_
    refine lv_iconst (v := 1) hx hb dX8_openStatement_77 (by decide) ?_
    refine lv_aload_n hx hb dX8_openStatement_78 rfl (lv_at hl 0 rfl) ?_
    refine va_get (D := D) (ci := 8) (v := .ref (ad 112)) (C := RX8) (T := TX8) (N := 48) hx hb hts layX8 hown hK hP 0 rfl rfl 21 (by decide) (hts _ (inA q999)) (fun _ h9 => h9) rfl dX8_openStatement_79 ?_
    refine lv_iload_n hx hb dX8_openStatement_82 rfl (lv_at hl 1 rfl) ?_
    obtain ⟨b7, hM⟩ := gd_use hM
    refine va_iald hx hb hK hP 5 0 rfl rfl b7 dX8_openStatement_83 ?_
    obtain ⟨r8, hcr8, hM⟩ := ob_use hM
    refine cl_V (As := [.int 1, .int (o_T.2.2.2.2.2.2.1 a1.toNatClampNeg)]) (rest := []) (wM0 ad o_X o_L o_N o_T o_U o_O o_E o_Q o_V r8 ++ wMT cI ad o_T ++ wMI cI ad r8) [] ⟨hx, hb, hml, hown, hts⟩ (c_Model_item l D cI sd ad o_C o_X o_L o_N o_T o_U o_O o_E o_Q o_V r6 1 (o_T.2.2.2.2.2.2.1 a1.toNatClampNeg) r8 hcr8) (cwV2 hts q1512 mvX8_item rfl rfl ⟨(Nat.le_of_ble_eq_true rfl), (Nat.le_of_ble_eq_true rfl)⟩) hK hE hA hP hD hS 0 (T := TX8) (N := 48) (ci := 8) rfl rfl [0, 8, 9] rfl (by decide) rfl rfl rfl rfl rfl rfl hl.1 (Nat.le_of_ble_eq_true rfl) dX8_openStatement_84 ⟨Nat.zero_le _, Nat.zero_le _⟩ (fun H locs hP hD hS => ?_)
    refine lv_goto (tgt := 367) hx hb dX8_openStatement_87 (by decide) ?_
    cases hM
    exact rt_v hx hb hr hlk hP hD hS rfl dX8_openStatement_367
  replace hM := if_f c2 hM
  by_cases c9 : (o_T.2.2.1 a1.toNatClampNeg) = 13
  · replace hM := if_t c9 hM
    refine lv_tableIn (tgt := 90) hx hb dX8_openStatement_6 (by rw [c9]; decide) (by rw [c9]; decide) (by rw [c9]; rfl) (by decide) ?_
    refine lv_aload_n hx hb dX8_openStatement_90 rfl (lv_at hl 0 rfl) ?_
    refine lv_iconst (v := 0) hx hb dX8_openStatement_91 (by decide) ?_
    refine lv_bipush (v := 60) hx hb dX8_openStatement_92 (by decide) ?_
    obtain ⟨r10, hcr10, hM⟩ := ob_use hM
    refine cl_V (As := [.int 0, .int 60]) (rest := []) (wM0 ad o_X o_L o_N o_T o_U o_O o_E o_Q o_V r10 ++ wMT cI ad o_T ++ wMI cI ad r10) [] ⟨hx, hb, hml, hown, hts⟩ (c_Model_item l D cI sd ad o_C o_X o_L o_N o_T o_U o_O o_E o_Q o_V o_I 0 60 r10 hcr10) (cwV2 hts q1512 mvX8_item rfl rfl ⟨(Nat.le_of_ble_eq_true rfl), (Nat.le_of_ble_eq_true rfl)⟩) hK hE hA hP hD hS 0 (T := TX8) (N := 48) (ci := 8) rfl rfl [0, 8, 9] rfl (by decide) rfl rfl rfl rfl rfl rfl hl.1 (Nat.le_of_ble_eq_true rfl) dX8_openStatement_94 ⟨Nat.zero_le _, Nat.zero_le _⟩ (fun H locs hP hD hS => ?_)
    refine lv_aload_n hx hb dX8_openStatement_97 rfl (lv_at hl 0 rfl) ?_
    refine lv_bipush (v := 56) hx hb dX8_openStatement_98 (by decide) ?_
    refine lv_iconst (v := 3) hx hb dX8_openStatement_100 (by decide) ?_
    refine lv_iload_n hx hb dX8_openStatement_101 rfl (lv_at hl 1 rfl) ?_
    refine lv_bipush (v := 55) hx hb dX8_openStatement_102 (by decide) ?_
    obtain ⟨r11, hcr11, hM⟩ := ob_use hM
    refine cl_V (As := [.int 56, .int 3, .int a1, .int 55]) (rest := []) (wM0 ad o_X o_L o_N o_T o_U o_O o_E o_Q o_V r11 ++ wMT cI ad o_T ++ wMI cI ad r11) [] ⟨hx, hb, hml, hown, hts⟩ (c_Model_itemAll l D cI sd ad o_C o_X o_L o_N o_U o_O o_E o_Q o_V o_T r10 56 3 a1 55 r11 hcr11) (cwV2 hts q1559 mvX8_itemAll rfl rfl ⟨(Nat.le_of_ble_eq_true rfl), (Nat.le_of_ble_eq_true rfl)⟩) hK hE hA hP hD hS 0 (T := TX8) (N := 48) (ci := 8) rfl rfl [0, 1, 2, 3, 4, 5, 6, 7, 8, 9] rfl (by decide) rfl rfl rfl rfl rfl rfl hl.1 (Nat.le_of_ble_eq_true rfl) dX8_openStatement_104 ⟨Nat.zero_le _, Nat.zero_le _⟩ (fun H locs hP hD hS => ?_)
    refine lv_aload_n hx hb dX8_openStatement_107 rfl (lv_at hl 0 rfl) ?_
    refine lv_bipush (v := 8) hx hb dX8_openStatement_108 (by decide) ?_
    refine lv_aload_n hx hb dX8_openStatement_110 rfl (lv_at hl 0 rfl) ?_
    refine va_get (D := D) (ci := 8) (v := .ref (ad 110)) (C := RX8) (T := TX8) (N := 48) hx hb hts layX8 hown hK hP 0 rfl rfl 19 (by decide) (hts _ (inA q997)) (fun _ h9 => h9) rfl dX8_openStatement_111 ?_
    refine lv_iload_n hx hb dX8_openStatement_114 rfl (lv_at hl 1 rfl) ?_
    obtain ⟨b12, hM⟩ := gd_use hM
    refine va_iald hx hb hK hP 3 0 rfl rfl b12 dX8_openStatement_115 ?_
    obtain ⟨r13, hcr13, hM⟩ := ob_use hM
    refine cl_V (As := [.int 8, .int (o_T.2.2.2.2.1 a1.toNatClampNeg)]) (rest := []) (wM0 ad o_X o_L o_N o_T o_U o_O o_E o_Q o_V r13 ++ wMT cI ad o_T ++ wMI cI ad r13) [] ⟨hx, hb, hml, hown, hts⟩ (c_Model_item l D cI sd ad o_C o_X o_L o_N o_T o_U o_O o_E o_Q o_V r11 8 (o_T.2.2.2.2.1 a1.toNatClampNeg) r13 hcr13) (cwV2 hts q1512 mvX8_item rfl rfl ⟨(Nat.le_of_ble_eq_true rfl), (Nat.le_of_ble_eq_true rfl)⟩) hK hE hA hP hD hS 0 (T := TX8) (N := 48) (ci := 8) rfl rfl [0, 8, 9] rfl (by decide) rfl rfl rfl rfl rfl rfl hl.1 (Nat.le_of_ble_eq_true rfl) dX8_openStatement_116 ⟨Nat.zero_le _, Nat.zero_le _⟩ (fun H locs hP hD hS => ?_)
    refine lv_goto (tgt := 367) hx hb dX8_openStatement_119 (by decide) ?_
    cases hM
    exact rt_v hx hb hr hlk hP hD hS rfl dX8_openStatement_367
  replace hM := if_f c9 hM
  by_cases c14 : (o_T.2.2.1 a1.toNatClampNeg) = 14
  · replace hM := if_t c14 hM
    refine lv_tableIn (tgt := 122) hx hb dX8_openStatement_6 (by rw [c14]; decide) (by rw [c14]; decide) (by rw [c14]; rfl) (by decide) ?_
    refine lv_aload_n hx hb dX8_openStatement_122 rfl (lv_at hl 0 rfl) ?_
    refine lv_iconst (v := 1) hx hb dX8_openStatement_123 (by decide) ?_
    refine lv_aload_n hx hb dX8_openStatement_124 rfl (lv_at hl 0 rfl) ?_
    refine va_get (D := D) (ci := 8) (v := .ref (ad 112)) (C := RX8) (T := TX8) (N := 48) hx hb hts layX8 hown hK hP 0 rfl rfl 21 (by decide) (hts _ (inA q999)) (fun _ h9 => h9) rfl dX8_openStatement_125 ?_
    refine lv_iload_n hx hb dX8_openStatement_128 rfl (lv_at hl 1 rfl) ?_
    obtain ⟨b15, hM⟩ := gd_use hM
    refine va_iald hx hb hK hP 5 0 rfl rfl b15 dX8_openStatement_129 ?_
    obtain ⟨r16, hcr16, hM⟩ := ob_use hM
    refine cl_V (As := [.int 1, .int (o_T.2.2.2.2.2.2.1 a1.toNatClampNeg)]) (rest := []) (wM0 ad o_X o_L o_N o_T o_U o_O o_E o_Q o_V r16 ++ wMT cI ad o_T ++ wMI cI ad r16) [] ⟨hx, hb, hml, hown, hts⟩ (c_Model_item l D cI sd ad o_C o_X o_L o_N o_T o_U o_O o_E o_Q o_V o_I 1 (o_T.2.2.2.2.2.2.1 a1.toNatClampNeg) r16 hcr16) (cwV2 hts q1512 mvX8_item rfl rfl ⟨(Nat.le_of_ble_eq_true rfl), (Nat.le_of_ble_eq_true rfl)⟩) hK hE hA hP hD hS 0 (T := TX8) (N := 48) (ci := 8) rfl rfl [0, 8, 9] rfl (by decide) rfl rfl rfl rfl rfl rfl hl.1 (Nat.le_of_ble_eq_true rfl) dX8_openStatement_130 ⟨Nat.zero_le _, Nat.zero_le _⟩ (fun H locs hP hD hS => ?_)
    refine lv_aload_n hx hb dX8_openStatement_133 rfl (lv_at hl 0 rfl) ?_
    refine lv_iconst (v := 0) hx hb dX8_openStatement_134 (by decide) ?_
    refine lv_bipush (v := 50) hx hb dX8_openStatement_135 (by decide) ?_
    obtain ⟨r17, hcr17, hM⟩ := ob_use hM
    refine cl_V (As := [.int 0, .int 50]) (rest := []) (wM0 ad o_X o_L o_N o_T o_U o_O o_E o_Q o_V r17 ++ wMT cI ad o_T ++ wMI cI ad r17) [] ⟨hx, hb, hml, hown, hts⟩ (c_Model_item l D cI sd ad o_C o_X o_L o_N o_T o_U o_O o_E o_Q o_V r16 0 50 r17 hcr17) (cwV2 hts q1512 mvX8_item rfl rfl ⟨(Nat.le_of_ble_eq_true rfl), (Nat.le_of_ble_eq_true rfl)⟩) hK hE hA hP hD hS 0 (T := TX8) (N := 48) (ci := 8) rfl rfl [0, 8, 9] rfl (by decide) rfl rfl rfl rfl rfl rfl hl.1 (Nat.le_of_ble_eq_true rfl) dX8_openStatement_137 ⟨Nat.zero_le _, Nat.zero_le _⟩ (fun H locs hP hD hS => ?_)
    refine lv_aload_n hx hb dX8_openStatement_140 rfl (lv_at hl 0 rfl) ?_
    refine lv_bipush (v := 8) hx hb dX8_openStatement_141 (by decide) ?_
    refine lv_aload_n hx hb dX8_openStatement_143 rfl (lv_at hl 0 rfl) ?_
    refine va_get (D := D) (ci := 8) (v := .ref (ad 110)) (C := RX8) (T := TX8) (N := 48) hx hb hts layX8 hown hK hP 0 rfl rfl 19 (by decide) (hts _ (inA q997)) (fun _ h9 => h9) rfl dX8_openStatement_144 ?_
    refine lv_iload_n hx hb dX8_openStatement_147 rfl (lv_at hl 1 rfl) ?_
    obtain ⟨b18, hM⟩ := gd_use hM
    refine va_iald hx hb hK hP 3 0 rfl rfl b18 dX8_openStatement_148 ?_
    obtain ⟨r19, hcr19, hM⟩ := ob_use hM
    refine cl_V (As := [.int 8, .int (o_T.2.2.2.2.1 a1.toNatClampNeg)]) (rest := []) (wM0 ad o_X o_L o_N o_T o_U o_O o_E o_Q o_V r19 ++ wMT cI ad o_T ++ wMI cI ad r19) [] ⟨hx, hb, hml, hown, hts⟩ (c_Model_item l D cI sd ad o_C o_X o_L o_N o_T o_U o_O o_E o_Q o_V r17 8 (o_T.2.2.2.2.1 a1.toNatClampNeg) r19 hcr19) (cwV2 hts q1512 mvX8_item rfl rfl ⟨(Nat.le_of_ble_eq_true rfl), (Nat.le_of_ble_eq_true rfl)⟩) hK hE hA hP hD hS 0 (T := TX8) (N := 48) (ci := 8) rfl rfl [0, 8, 9] rfl (by decide) rfl rfl rfl rfl rfl rfl hl.1 (Nat.le_of_ble_eq_true rfl) dX8_openStatement_149 ⟨Nat.zero_le _, Nat.zero_le _⟩ (fun H locs hP hD hS => ?_)
    refine lv_goto (tgt := 367) hx hb dX8_openStatement_152 (by decide) ?_
    cases hM
    exact rt_v hx hb hr hlk hP hD hS rfl dX8_openStatement_367
  replace hM := if_f c14 hM
  by_cases c20 : (o_T.2.2.1 a1.toNatClampNeg) = 15
  · replace hM := if_t c20 hM
    refine lv_tableIn (tgt := 155) hx hb dX8_openStatement_6 (by rw [c20]; decide) (by rw [c20]; decide) (by rw [c20]; rfl) (by decide) ?_
    refine lv_aload_n hx hb dX8_openStatement_155 rfl (lv_at hl 0 rfl) ?_
    refine lv_iconst (v := 0) hx hb dX8_openStatement_156 (by decide) ?_
    refine lv_bipush (v := 60) hx hb dX8_openStatement_157 (by decide) ?_
    obtain ⟨r21, hcr21, hM⟩ := ob_use hM
    refine cl_V (As := [.int 0, .int 60]) (rest := []) (wM0 ad o_X o_L o_N o_T o_U o_O o_E o_Q o_V r21 ++ wMT cI ad o_T ++ wMI cI ad r21) [] ⟨hx, hb, hml, hown, hts⟩ (c_Model_item l D cI sd ad o_C o_X o_L o_N o_T o_U o_O o_E o_Q o_V o_I 0 60 r21 hcr21) (cwV2 hts q1512 mvX8_item rfl rfl ⟨(Nat.le_of_ble_eq_true rfl), (Nat.le_of_ble_eq_true rfl)⟩) hK hE hA hP hD hS 0 (T := TX8) (N := 48) (ci := 8) rfl rfl [0, 8, 9] rfl (by decide) rfl rfl rfl rfl rfl rfl hl.1 (Nat.le_of_ble_eq_true rfl) dX8_openStatement_159 ⟨Nat.zero_le _, Nat.zero_le _⟩ (fun H locs hP hD hS => ?_)
    refine lv_aload_n hx hb dX8_openStatement_162 rfl (lv_at hl 0 rfl) ?_
    refine lv_iconst (v := 0) hx hb dX8_openStatement_163 (by decide) ?_
    refine lv_bipush (v := 20) hx hb dX8_openStatement_164 (by decide) ?_
    obtain ⟨r22, hcr22, hM⟩ := ob_use hM
    refine cl_V (As := [.int 0, .int 20]) (rest := []) (wM0 ad o_X o_L o_N o_T o_U o_O o_E o_Q o_V r22 ++ wMT cI ad o_T ++ wMI cI ad r22) [] ⟨hx, hb, hml, hown, hts⟩ (c_Model_item l D cI sd ad o_C o_X o_L o_N o_T o_U o_O o_E o_Q o_V r21 0 20 r22 hcr22) (cwV2 hts q1512 mvX8_item rfl rfl ⟨(Nat.le_of_ble_eq_true rfl), (Nat.le_of_ble_eq_true rfl)⟩) hK hE hA hP hD hS 0 (T := TX8) (N := 48) (ci := 8) rfl rfl [0, 8, 9] rfl (by decide) rfl rfl rfl rfl rfl rfl hl.1 (Nat.le_of_ble_eq_true rfl) dX8_openStatement_166 ⟨Nat.zero_le _, Nat.zero_le _⟩ (fun H locs hP hD hS => ?_)
    refine lv_aload_n hx hb dX8_openStatement_169 rfl (lv_at hl 0 rfl) ?_
    refine lv_iconst (v := 4) hx hb dX8_openStatement_170 (by decide) ?_
    refine lv_aload_n hx hb dX8_openStatement_171 rfl (lv_at hl 0 rfl) ?_
    refine va_get (D := D) (ci := 8) (v := .ref (ad 114)) (C := RX8) (T := TX8) (N := 48) hx hb hts layX8 hown hK hP 0 rfl rfl 23 (by decide) (hts _ (inA q1001)) (fun _ h9 => h9) rfl dX8_openStatement_172 ?_
    refine lv_aload_n hx hb dX8_openStatement_175 rfl (lv_at hl 0 rfl) ?_
    refine lv_iload_n hx hb dX8_openStatement_176 rfl (lv_at hl 1 rfl) ?_
    obtain ⟨r23, hcr23, hM⟩ := ob_use hM
    refine cl_V (As := [.int a1]) (rest := [.ref (ad 114), .int 4, .ref (ad 100)]) (wM0 ad o_X o_L o_N o_T o_U o_O o_E o_Q o_V r22 ++ wMT cI ad o_T ++ wMI cI ad r22) (.int r23 :: [.ref (ad 114), .int 4, .ref (ad 100)]) ⟨hx, hb, hml, hown, hts⟩ (c_Model_second l D cI sd ad o_C o_X o_L o_N o_U o_O o_E o_Q o_V r22 o_T a1 r23 hcr23) (cwV2 hts q1555 mvX8_second rfl rfl ⟨(Nat.le_of_ble_eq_true rfl), (Nat.le_of_ble_eq_true rfl)⟩) hK hE hA hP hD hS 0 (T := TX8) (N := 48) (ci := 8) rfl rfl [0, 1, 2, 3, 4, 5, 6, 7] rfl (by decide) rfl rfl rfl rfl rfl rfl hl.1 (Nat.le_of_ble_eq_true rfl) dX8_openStatement_177 ⟨Nat.zero_le _, Nat.zero_le _⟩ (fun H locs hP hD hS => ?_)
    obtain ⟨b24, hM⟩ := gd_use hM
    refine va_iald hx hb hK hP 7 0 rfl rfl b24 dX8_openStatement_180 ?_
    obtain ⟨r25, hcr25, hM⟩ := ob_use hM
    refine cl_V (As := [.int 4, .int (o_T.2.2.2.2.2.2.2.2 r23.toNatClampNeg)]) (rest := []) (wM0 ad o_X o_L o_N o_T o_U o_O o_E o_Q o_V r25 ++ wMT cI ad o_T ++ wMI cI ad r25) [] ⟨hx, hb, hml, hown, hts⟩ (c_Model_item l D cI sd ad o_C o_X o_L o_N o_T o_U o_O o_E o_Q o_V r22 4 (o_T.2.2.2.2.2.2.2.2 r23.toNatClampNeg) r25 hcr25) (cwV2 hts q1512 mvX8_item rfl rfl ⟨(Nat.le_of_ble_eq_true rfl), (Nat.le_of_ble_eq_true rfl)⟩) hK hE hA hP hD hS 0 (T := TX8) (N := 48) (ci := 8) rfl rfl [0, 8, 9] rfl (by decide) rfl rfl rfl rfl rfl rfl hl.1 (Nat.le_of_ble_eq_true rfl) dX8_openStatement_181 ⟨Nat.zero_le _, Nat.zero_le _⟩ (fun H locs hP hD hS => ?_)
    refine lv_aload_n hx hb dX8_openStatement_184 rfl (lv_at hl 0 rfl) ?_
    refine lv_iconst (v := 1) hx hb dX8_openStatement_185 (by decide) ?_
    refine lv_aload_n hx hb dX8_openStatement_186 rfl (lv_at hl 0 rfl) ?_
    refine lv_iload_n hx hb dX8_openStatement_187 rfl (lv_at hl 1 rfl) ?_
    obtain ⟨r26, hcr26, hM⟩ := ob_use hM
    refine cl_V (As := [.int a1]) (rest := [.int 1, .ref (ad 100)]) (wM0 ad o_X o_L o_N o_T o_U o_O o_E o_Q o_V r25 ++ wMT cI ad o_T ++ wMI cI ad r25) (.int r26 :: [.int 1, .ref (ad 100)]) ⟨hx, hb, hml, hown, hts⟩ (c_Model_second l D cI sd ad o_C o_X o_L o_N o_U o_O o_E o_Q o_V r25 o_T a1 r26 hcr26) (cwV2 hts q1555 mvX8_second rfl rfl ⟨(Nat.le_of_ble_eq_true rfl), (Nat.le_of_ble_eq_true rfl)⟩) hK hE hA hP hD hS 0 (T := TX8) (N := 48) (ci := 8) rfl rfl [0, 1, 2, 3, 4, 5, 6, 7] rfl (by decide) rfl rfl rfl rfl rfl rfl hl.1 (Nat.le_of_ble_eq_true rfl) dX8_openStatement_188 ⟨Nat.zero_le _, Nat.zero_le _⟩ (fun H locs hP hD hS => ?_)
    obtain ⟨r27, hcr27, hM⟩ := ob_use hM
    refine cl_V (As := [.int 1, .int r26]) (rest := []) (wM0 ad o_X o_L o_N o_T o_U o_O o_E o_Q o_V r27 ++ wMT cI ad o_T ++ wMI cI ad r27) [] ⟨hx, hb, hml, hown, hts⟩ (c_Model_item l D cI sd ad o_C o_X o_L o_N o_T o_U o_O o_E o_Q o_V r25 1 r26 r27 hcr27) (cwV2 hts q1512 mvX8_item rfl rfl ⟨(Nat.le_of_ble_eq_true rfl), (Nat.le_of_ble_eq_true rfl)⟩) hK hE hA hP hD hS 0 (T := TX8) (N := 48) (ci := 8) rfl rfl [0, 8, 9] rfl (by decide) rfl rfl rfl rfl rfl rfl hl.1 (Nat.le_of_ble_eq_true rfl) dX8_openStatement_191 ⟨Nat.zero_le _, Nat.zero_le _⟩ (fun H locs hP hD hS => ?_)
    refine lv_aload_n hx hb dX8_openStatement_194 rfl (lv_at hl 0 rfl) ?_
    refine lv_iconst (v := 0) hx hb dX8_openStatement_195 (by decide) ?_
    refine lv_bipush (v := 17) hx hb dX8_openStatement_196 (by decide) ?_
    obtain ⟨r28, hcr28, hM⟩ := ob_use hM
    refine cl_V (As := [.int 0, .int 17]) (rest := []) (wM0 ad o_X o_L o_N o_T o_U o_O o_E o_Q o_V r28 ++ wMT cI ad o_T ++ wMI cI ad r28) [] ⟨hx, hb, hml, hown, hts⟩ (c_Model_item l D cI sd ad o_C o_X o_L o_N o_T o_U o_O o_E o_Q o_V r27 0 17 r28 hcr28) (cwV2 hts q1512 mvX8_item rfl rfl ⟨(Nat.le_of_ble_eq_true rfl), (Nat.le_of_ble_eq_true rfl)⟩) hK hE hA hP hD hS 0 (T := TX8) (N := 48) (ci := 8) rfl rfl [0, 8, 9] rfl (by decide) rfl rfl rfl rfl rfl rfl hl.1 (Nat.le_of_ble_eq_true rfl) dX8_openStatement_198 ⟨Nat.zero_le _, Nat.zero_le _⟩ (fun H locs hP hD hS => ?_)
    refine lv_aload_n hx hb dX8_openStatement_201 rfl (lv_at hl 0 rfl) ?_
    refine lv_iconst (v := 1) hx hb dX8_openStatement_202 (by decide) ?_
    refine lv_aload_n hx hb dX8_openStatement_203 rfl (lv_at hl 0 rfl) ?_
    refine va_get (D := D) (ci := 8) (v := .ref (ad 112)) (C := RX8) (T := TX8) (N := 48) hx hb hts layX8 hown hK hP 0 rfl rfl 21 (by decide) (hts _ (inA q999)) (fun _ h9 => h9) rfl dX8_openStatement_204 ?_
    refine lv_iload_n hx hb dX8_openStatement_207 rfl (lv_at hl 1 rfl) ?_
    obtain ⟨b29, hM⟩ := gd_use hM
    refine va_iald hx hb hK hP 5 0 rfl rfl b29 dX8_openStatement_208 ?_
    obtain ⟨r30, hcr30, hM⟩ := ob_use hM
    refine cl_V (As := [.int 1, .int (o_T.2.2.2.2.2.2.1 a1.toNatClampNeg)]) (rest := []) (wM0 ad o_X o_L o_N o_T o_U o_O o_E o_Q o_V r30 ++ wMT cI ad o_T ++ wMI cI ad r30) [] ⟨hx, hb, hml, hown, hts⟩ (c_Model_item l D cI sd ad o_C o_X o_L o_N o_T o_U o_O o_E o_Q o_V r28 1 (o_T.2.2.2.2.2.2.1 a1.toNatClampNeg) r30 hcr30) (cwV2 hts q1512 mvX8_item rfl rfl ⟨(Nat.le_of_ble_eq_true rfl), (Nat.le_of_ble_eq_true rfl)⟩) hK hE hA hP hD hS 0 (T := TX8) (N := 48) (ci := 8) rfl rfl [0, 8, 9] rfl (by decide) rfl rfl rfl rfl rfl rfl hl.1 (Nat.le_of_ble_eq_true rfl) dX8_openStatement_209 ⟨Nat.zero_le _, Nat.zero_le _⟩ (fun H locs hP hD hS => ?_)
    refine lv_aload_n hx hb dX8_openStatement_212 rfl (lv_at hl 0 rfl) ?_
    refine lv_iconst (v := 0) hx hb dX8_openStatement_213 (by decide) ?_
    refine lv_bipush (v := 16) hx hb dX8_openStatement_214 (by decide) ?_
    obtain ⟨r31, hcr31, hM⟩ := ob_use hM
    refine cl_V (As := [.int 0, .int 16]) (rest := []) (wM0 ad o_X o_L o_N o_T o_U o_O o_E o_Q o_V r31 ++ wMT cI ad o_T ++ wMI cI ad r31) [] ⟨hx, hb, hml, hown, hts⟩ (c_Model_item l D cI sd ad o_C o_X o_L o_N o_T o_U o_O o_E o_Q o_V r30 0 16 r31 hcr31) (cwV2 hts q1512 mvX8_item rfl rfl ⟨(Nat.le_of_ble_eq_true rfl), (Nat.le_of_ble_eq_true rfl)⟩) hK hE hA hP hD hS 0 (T := TX8) (N := 48) (ci := 8) rfl rfl [0, 8, 9] rfl (by decide) rfl rfl rfl rfl rfl rfl hl.1 (Nat.le_of_ble_eq_true rfl) dX8_openStatement_216 ⟨Nat.zero_le _, Nat.zero_le _⟩ (fun H locs hP hD hS => ?_)
    refine lv_goto (tgt := 367) hx hb dX8_openStatement_219 (by decide) ?_
    cases hM
    exact rt_v hx hb hr hlk hP hD hS rfl dX8_openStatement_367
  replace hM := if_f c20 hM
  by_cases c32 : (o_T.2.2.1 a1.toNatClampNeg) = 16
  · replace hM := if_t c32 hM
    refine lv_tableIn (tgt := 222) hx hb dX8_openStatement_6 (by rw [c32]; decide) (by rw [c32]; decide) (by rw [c32]; rfl) (by decide) ?_
    refine lv_aload_n hx hb dX8_openStatement_222 rfl (lv_at hl 0 rfl) ?_
    refine lv_iconst (v := 0) hx hb dX8_openStatement_223 (by decide) ?_
    refine lv_bipush (v := 60) hx hb dX8_openStatement_224 (by decide) ?_
    obtain ⟨r33, hcr33, hM⟩ := ob_use hM
    refine cl_V (As := [.int 0, .int 60]) (rest := []) (wM0 ad o_X o_L o_N o_T o_U o_O o_E o_Q o_V r33 ++ wMT cI ad o_T ++ wMI cI ad r33) [] ⟨hx, hb, hml, hown, hts⟩ (c_Model_item l D cI sd ad o_C o_X o_L o_N o_T o_U o_O o_E o_Q o_V o_I 0 60 r33 hcr33) (cwV2 hts q1512 mvX8_item rfl rfl ⟨(Nat.le_of_ble_eq_true rfl), (Nat.le_of_ble_eq_true rfl)⟩) hK hE hA hP hD hS 0 (T := TX8) (N := 48) (ci := 8) rfl rfl [0, 8, 9] rfl (by decide) rfl rfl rfl rfl rfl rfl hl.1 (Nat.le_of_ble_eq_true rfl) dX8_openStatement_226 ⟨Nat.zero_le _, Nat.zero_le _⟩ (fun H locs hP hD hS => ?_)
    refine lv_aload_n hx hb dX8_openStatement_229 rfl (lv_at hl 0 rfl) ?_
    refine lv_iconst (v := 0) hx hb dX8_openStatement_230 (by decide) ?_
    refine lv_bipush (v := 22) hx hb dX8_openStatement_231 (by decide) ?_
    obtain ⟨r34, hcr34, hM⟩ := ob_use hM
    refine cl_V (As := [.int 0, .int 22]) (rest := []) (wM0 ad o_X o_L o_N o_T o_U o_O o_E o_Q o_V r34 ++ wMT cI ad o_T ++ wMI cI ad r34) [] ⟨hx, hb, hml, hown, hts⟩ (c_Model_item l D cI sd ad o_C o_X o_L o_N o_T o_U o_O o_E o_Q o_V r33 0 22 r34 hcr34) (cwV2 hts q1512 mvX8_item rfl rfl ⟨(Nat.le_of_ble_eq_true rfl), (Nat.le_of_ble_eq_true rfl)⟩) hK hE hA hP hD hS 0 (T := TX8) (N := 48) (ci := 8) rfl rfl [0, 8, 9] rfl (by decide) rfl rfl rfl rfl rfl rfl hl.1 (Nat.le_of_ble_eq_true rfl) dX8_openStatement_233 ⟨Nat.zero_le _, Nat.zero_le _⟩ (fun H locs hP hD hS => ?_)
    refine lv_aload_n hx hb dX8_openStatement_236 rfl (lv_at hl 0 rfl) ?_
    refine lv_iconst (v := 5) hx hb dX8_openStatement_237 (by decide) ?_
    refine lv_aload_n hx hb dX8_openStatement_238 rfl (lv_at hl 0 rfl) ?_
    refine lv_iload_n hx hb dX8_openStatement_239 rfl (lv_at hl 1 rfl) ?_
    obtain ⟨r35, hcr35, hM⟩ := ob_use hM
    refine cl_V (As := [.int a1]) (rest := [.int 5, .ref (ad 100)]) (wM0 ad o_X o_L o_N o_T o_U o_O o_E o_Q o_V r34 ++ wMT cI ad o_T ++ wMI cI ad r34) (.int r35 :: [.int 5, .ref (ad 100)]) ⟨hx, hb, hml, hown, hts⟩ (c_Model_second l D cI sd ad o_C o_X o_L o_N o_U o_O o_E o_Q o_V r34 o_T a1 r35 hcr35) (cwV2 hts q1555 mvX8_second rfl rfl ⟨(Nat.le_of_ble_eq_true rfl), (Nat.le_of_ble_eq_true rfl)⟩) hK hE hA hP hD hS 0 (T := TX8) (N := 48) (ci := 8) rfl rfl [0, 1, 2, 3, 4, 5, 6, 7] rfl (by decide) rfl rfl rfl rfl rfl rfl hl.1 (Nat.le_of_ble_eq_true rfl) dX8_openStatement_240 ⟨Nat.zero_le _, Nat.zero_le _⟩ (fun H locs hP hD hS => ?_)
    obtain ⟨r36, hcr36, hM⟩ := ob_use hM
    refine cl_V (As := [.int 5, .int r35]) (rest := []) (wM0 ad o_X o_L o_N o_T o_U o_O o_E o_Q o_V r36 ++ wMT cI ad o_T ++ wMI cI ad r36) [] ⟨hx, hb, hml, hown, hts⟩ (c_Model_item l D cI sd ad o_C o_X o_L o_N o_T o_U o_O o_E o_Q o_V r34 5 r35 r36 hcr36) (cwV2 hts q1512 mvX8_item rfl rfl ⟨(Nat.le_of_ble_eq_true rfl), (Nat.le_of_ble_eq_true rfl)⟩) hK hE hA hP hD hS 0 (T := TX8) (N := 48) (ci := 8) rfl rfl [0, 8, 9] rfl (by decide) rfl rfl rfl rfl rfl rfl hl.1 (Nat.le_of_ble_eq_true rfl) dX8_openStatement_243 ⟨Nat.zero_le _, Nat.zero_le _⟩ (fun H locs hP hD hS => ?_)
    refine lv_aload_n hx hb dX8_openStatement_246 rfl (lv_at hl 0 rfl) ?_
    refine lv_iconst (v := 0) hx hb dX8_openStatement_247 (by decide) ?_
    refine lv_bipush (v := 15) hx hb dX8_openStatement_248 (by decide) ?_
    obtain ⟨r37, hcr37, hM⟩ := ob_use hM
    refine cl_V (As := [.int 0, .int 15]) (rest := []) (wM0 ad o_X o_L o_N o_T o_U o_O o_E o_Q o_V r37 ++ wMT cI ad o_T ++ wMI cI ad r37) [] ⟨hx, hb, hml, hown, hts⟩ (c_Model_item l D cI sd ad o_C o_X o_L o_N o_T o_U o_O o_E o_Q o_V r36 0 15 r37 hcr37) (cwV2 hts q1512 mvX8_item rfl rfl ⟨(Nat.le_of_ble_eq_true rfl), (Nat.le_of_ble_eq_true rfl)⟩) hK hE hA hP hD hS 0 (T := TX8) (N := 48) (ci := 8) rfl rfl [0, 8, 9] rfl (by decide) rfl rfl rfl rfl rfl rfl hl.1 (Nat.le_of_ble_eq_true rfl) dX8_openStatement_250 ⟨Nat.zero_le _, Nat.zero_le _⟩ (fun H locs hP hD hS => ?_)
    refine lv_aload_n hx hb dX8_openStatement_253 rfl (lv_at hl 0 rfl) ?_
    refine lv_iconst (v := 1) hx hb dX8_openStatement_254 (by decide) ?_
    refine lv_aload_n hx hb dX8_openStatement_255 rfl (lv_at hl 0 rfl) ?_
    refine va_get (D := D) (ci := 8) (v := .ref (ad 112)) (C := RX8) (T := TX8) (N := 48) hx hb hts layX8 hown hK hP 0 rfl rfl 21 (by decide) (hts _ (inA q999)) (fun _ h9 => h9) rfl dX8_openStatement_256 ?_
    refine lv_iload_n hx hb dX8_openStatement_259 rfl (lv_at hl 1 rfl) ?_
    obtain ⟨b38, hM⟩ := gd_use hM
    refine va_iald hx hb hK hP 5 0 rfl rfl b38 dX8_openStatement_260 ?_
    obtain ⟨r39, hcr39, hM⟩ := ob_use hM
    refine cl_V (As := [.int 1, .int (o_T.2.2.2.2.2.2.1 a1.toNatClampNeg)]) (rest := []) (wM0 ad o_X o_L o_N o_T o_U o_O o_E o_Q o_V r39 ++ wMT cI ad o_T ++ wMI cI ad r39) [] ⟨hx, hb, hml, hown, hts⟩ (c_Model_item l D cI sd ad o_C o_X o_L o_N o_T o_U o_O o_E o_Q o_V r37 1 (o_T.2.2.2.2.2.2.1 a1.toNatClampNeg) r39 hcr39) (cwV2 hts q1512 mvX8_item rfl rfl ⟨(Nat.le_of_ble_eq_true rfl), (Nat.le_of_ble_eq_true rfl)⟩) hK hE hA hP hD hS 0 (T := TX8) (N := 48) (ci := 8) rfl rfl [0, 8, 9] rfl (by decide) rfl rfl rfl rfl rfl rfl hl.1 (Nat.le_of_ble_eq_true rfl) dX8_openStatement_261 ⟨Nat.zero_le _, Nat.zero_le _⟩ (fun H locs hP hD hS => ?_)
    refine lv_aload_n hx hb dX8_openStatement_264 rfl (lv_at hl 0 rfl) ?_
    refine lv_iconst (v := 0) hx hb dX8_openStatement_265 (by decide) ?_
    refine lv_bipush (v := 21) hx hb dX8_openStatement_266 (by decide) ?_
    obtain ⟨r40, hcr40, hM⟩ := ob_use hM
    refine cl_V (As := [.int 0, .int 21]) (rest := []) (wM0 ad o_X o_L o_N o_T o_U o_O o_E o_Q o_V r40 ++ wMT cI ad o_T ++ wMI cI ad r40) [] ⟨hx, hb, hml, hown, hts⟩ (c_Model_item l D cI sd ad o_C o_X o_L o_N o_T o_U o_O o_E o_Q o_V r39 0 21 r40 hcr40) (cwV2 hts q1512 mvX8_item rfl rfl ⟨(Nat.le_of_ble_eq_true rfl), (Nat.le_of_ble_eq_true rfl)⟩) hK hE hA hP hD hS 0 (T := TX8) (N := 48) (ci := 8) rfl rfl [0, 8, 9] rfl (by decide) rfl rfl rfl rfl rfl rfl hl.1 (Nat.le_of_ble_eq_true rfl) dX8_openStatement_268 ⟨Nat.zero_le _, Nat.zero_le _⟩ (fun H locs hP hD hS => ?_)
    refine lv_goto (tgt := 367) hx hb dX8_openStatement_271 (by decide) ?_
    cases hM
    exact rt_v hx hb hr hlk hP hD hS rfl dX8_openStatement_367
  replace hM := if_f c32 hM
  by_cases c41 : (o_T.2.2.1 a1.toNatClampNeg) = 17
  · replace hM := if_t c41 hM
    refine lv_tableIn (tgt := 274) hx hb dX8_openStatement_6 (by rw [c41]; decide) (by rw [c41]; decide) (by rw [c41]; rfl) (by decide) ?_
    refine lv_aload_n hx hb dX8_openStatement_274 rfl (lv_at hl 0 rfl) ?_
    refine lv_bipush (v := 6) hx hb dX8_openStatement_275 (by decide) ?_
    refine lv_aload_n hx hb dX8_openStatement_277 rfl (lv_at hl 0 rfl) ?_
    refine va_get (D := D) (ci := 8) (v := .ref (ad 112)) (C := RX8) (T := TX8) (N := 48) hx hb hts layX8 hown hK hP 0 rfl rfl 21 (by decide) (hts _ (inA q999)) (fun _ h9 => h9) rfl dX8_openStatement_278 ?_
    refine lv_iload_n hx hb dX8_openStatement_281 rfl (lv_at hl 1 rfl) ?_
    obtain ⟨b42, hM⟩ := gd_use hM
    refine va_iald hx hb hK hP 5 0 rfl rfl b42 dX8_openStatement_282 ?_
    obtain ⟨r43, hcr43, hM⟩ := ob_use hM
    refine cl_V (As := [.int 6, .int (o_T.2.2.2.2.2.2.1 a1.toNatClampNeg)]) (rest := []) (wM0 ad o_X o_L o_N o_T o_U o_O o_E o_Q o_V r43 ++ wMT cI ad o_T ++ wMI cI ad r43) [] ⟨hx, hb, hml, hown, hts⟩ (c_Model_item l D cI sd ad o_C o_X o_L o_N o_T o_U o_O o_E o_Q o_V o_I 6 (o_T.2.2.2.2.2.2.1 a1.toNatClampNeg) r43 hcr43) (cwV2 hts q1512 mvX8_item rfl rfl ⟨(Nat.le_of_ble_eq_true rfl), (Nat.le_of_ble_eq_true rfl)⟩) hK hE hA hP hD hS 0 (T := TX8) (N := 48) (ci := 8) rfl rfl [0, 8, 9] rfl (by decide) rfl rfl rfl rfl rfl rfl hl.1 (Nat.le_of_ble_eq_true rfl) dX8_openStatement_283 ⟨Nat.zero_le _, Nat.zero_le _⟩ (fun H locs hP hD hS => ?_)
    refine lv_goto (tgt := 367) hx hb dX8_openStatement_286 (by decide) ?_
    cases hM
    exact rt_v hx hb hr hlk hP hD hS rfl dX8_openStatement_367
  replace hM := if_f c41 hM
  by_cases c44 : (o_T.2.2.1 a1.toNatClampNeg) = 18
  · replace hM := if_t c44 hM
    refine lv_tableIn (tgt := 289) hx hb dX8_openStatement_6 (by rw [c44]; decide) (by rw [c44]; decide) (by rw [c44]; rfl) (by decide) ?_
    refine lv_aload_n hx hb dX8_openStatement_289 rfl (lv_at hl 0 rfl) ?_
    refine lv_iload_n hx hb dX8_openStatement_290 rfl (lv_at hl 1 rfl) ?_
    obtain ⟨r45, hcr45, hM⟩ := ob_use hM
    refine cl_V (As := [.int a1]) (rest := []) (wM0 ad o_X o_L o_N o_T o_U o_O o_E o_Q o_V o_I ++ wMT cI ad o_T ++ wMI cI ad o_I) (.int r45 :: []) ⟨hx, hb, hml, hown, hts⟩ (c_Model_second l D cI sd ad o_C o_X o_L o_N o_U o_O o_E o_Q o_V o_I o_T a1 r45 hcr45) (cwV2 hts q1555 mvX8_second rfl rfl ⟨(Nat.le_of_ble_eq_true rfl), (Nat.le_of_ble_eq_true rfl)⟩) hK hE hA hP hD hS 0 (T := TX8) (N := 48) (ci := 8) rfl rfl [0, 1, 2, 3, 4, 5, 6, 7] rfl (by decide) rfl rfl rfl rfl rfl rfl hl.1 (Nat.le_of_ble_eq_true rfl) dX8_openStatement_291 ⟨Nat.zero_le _, Nat.zero_le _⟩ (fun H locs hP hD hS => ?_)
    refine lv_iconst (v := (-1)) hx hb dX8_openStatement_294 (by decide) ?_
    refine lv_icmp_eq (tgt := 315) hx hb dX8_openStatement_295 (by decide) (fun c46 => ?_) (fun c46 => ?_)
    · replace hM := if_t c46 hM
      refine lv_aload_n hx hb dX8_openStatement_315 rfl (lv_at hl 0 rfl) ?_
      refine lv_iconst (v := 1) hx hb dX8_openStatement_316 (by decide) ?_
      refine lv_aload_n hx hb dX8_openStatement_317 rfl (lv_at hl 0 rfl) ?_
      refine va_get (D := D) (ci := 8) (v := .ref (ad 112)) (C := RX8) (T := TX8) (N := 48) hx hb hts layX8 hown hK hP 0 rfl rfl 21 (by decide) (hts _ (inA q999)) (fun _ h9 => h9) rfl dX8_openStatement_318 ?_
      refine lv_iload_n hx hb dX8_openStatement_321 rfl (lv_at hl 1 rfl) ?_
      obtain ⟨b47, hM⟩ := gd_use hM
      refine va_iald hx hb hK hP 5 0 rfl rfl b47 dX8_openStatement_322 ?_
      obtain ⟨r48, hcr48, hM⟩ := ob_use hM
      refine cl_V (As := [.int 1, .int (o_T.2.2.2.2.2.2.1 a1.toNatClampNeg)]) (rest := []) (wM0 ad o_X o_L o_N o_T o_U o_O o_E o_Q o_V r48 ++ wMT cI ad o_T ++ wMI cI ad r48) [] ⟨hx, hb, hml, hown, hts⟩ (c_Model_item l D cI sd ad o_C o_X o_L o_N o_T o_U o_O o_E o_Q o_V o_I 1 (o_T.2.2.2.2.2.2.1 a1.toNatClampNeg) r48 hcr48) (cwV2 hts q1512 mvX8_item rfl rfl ⟨(Nat.le_of_ble_eq_true rfl), (Nat.le_of_ble_eq_true rfl)⟩) hK hE hA hP hD hS 0 (T := TX8) (N := 48) (ci := 8) rfl rfl [0, 8, 9] rfl (by decide) rfl rfl rfl rfl rfl rfl hl.1 (Nat.le_of_ble_eq_true rfl) dX8_openStatement_323 ⟨Nat.zero_le _, Nat.zero_le _⟩ (fun H locs hP hD hS => ?_)
      refine lv_goto (tgt := 367) hx hb dX8_openStatement_326 (by decide) ?_
      cases hM
      exact rt_v hx hb hr hlk hP hD hS rfl dX8_openStatement_367
    · replace hM := if_f c46 hM
      refine lv_aload_n hx hb dX8_openStatement_298 rfl (lv_at hl 0 rfl) ?_
      refine lv_iconst (v := 1) hx hb dX8_openStatement_299 (by decide) ?_
      refine lv_aload_n hx hb dX8_openStatement_300 rfl (lv_at hl 0 rfl) ?_
      refine lv_iload_n hx hb dX8_openStatement_301 rfl (lv_at hl 1 rfl) ?_
      obtain ⟨r49, hcr49, hM⟩ := ob_use hM
      refine cl_V (As := [.int a1]) (rest := [.int 1, .ref (ad 100)]) (wM0 ad o_X o_L o_N o_T o_U o_O o_E o_Q o_V o_I ++ wMT cI ad o_T ++ wMI cI ad o_I) (.int r49 :: [.int 1, .ref (ad 100)]) ⟨hx, hb, hml, hown, hts⟩ (c_Model_second l D cI sd ad o_C o_X o_L o_N o_U o_O o_E o_Q o_V o_I o_T a1 r49 hcr49) (cwV2 hts q1555 mvX8_second rfl rfl ⟨(Nat.le_of_ble_eq_true rfl), (Nat.le_of_ble_eq_true rfl)⟩) hK hE hA hP hD hS 0 (T := TX8) (N := 48) (ci := 8) rfl rfl [0, 1, 2, 3, 4, 5, 6, 7] rfl (by decide) rfl rfl rfl rfl rfl rfl hl.1 (Nat.le_of_ble_eq_true rfl) dX8_openStatement_302 ⟨Nat.zero_le _, Nat.zero_le _⟩ (fun H locs hP hD hS => ?_)
      obtain ⟨r50, hcr50, hM⟩ := ob_use hM
      refine cl_V (As := [.int 1, .int r49]) (rest := []) (wM0 ad o_X o_L o_N o_T o_U o_O o_E o_Q o_V r50 ++ wMT cI ad o_T ++ wMI cI ad r50) [] ⟨hx, hb, hml, hown, hts⟩ (c_Model_item l D cI sd ad o_C o_X o_L o_N o_T o_U o_O o_E o_Q o_V o_I 1 r49 r50 hcr50) (cwV2 hts q1512 mvX8_item rfl rfl ⟨(Nat.le_of_ble_eq_true rfl), (Nat.le_of_ble_eq_true rfl)⟩) hK hE hA hP hD hS 0 (T := TX8) (N := 48) (ci := 8) rfl rfl [0, 8, 9] rfl (by decide) rfl rfl rfl rfl rfl rfl hl.1 (Nat.le_of_ble_eq_true rfl) dX8_openStatement_305 ⟨Nat.zero_le _, Nat.zero_le _⟩ (fun H locs hP hD hS => ?_)
      refine lv_aload_n hx hb dX8_openStatement_308 rfl (lv_at hl 0 rfl) ?_
      refine lv_iconst (v := 0) hx hb dX8_openStatement_309 (by decide) ?_
      refine lv_bipush (v := 51) hx hb dX8_openStatement_310 (by decide) ?_
      obtain ⟨r51, hcr51, hM⟩ := ob_use hM
      refine cl_V (As := [.int 0, .int 51]) (rest := []) (wM0 ad o_X o_L o_N o_T o_U o_O o_E o_Q o_V r51 ++ wMT cI ad o_T ++ wMI cI ad r51) [] ⟨hx, hb, hml, hown, hts⟩ (c_Model_item l D cI sd ad o_C o_X o_L o_N o_T o_U o_O o_E o_Q o_V r50 0 51 r51 hcr51) (cwV2 hts q1512 mvX8_item rfl rfl ⟨(Nat.le_of_ble_eq_true rfl), (Nat.le_of_ble_eq_true rfl)⟩) hK hE hA hP hD hS 0 (T := TX8) (N := 48) (ci := 8) rfl rfl [0, 8, 9] rfl (by decide) rfl rfl rfl rfl rfl rfl hl.1 (Nat.le_of_ble_eq_true rfl) dX8_openStatement_312 ⟨Nat.zero_le _, Nat.zero_le _⟩ (fun H locs hP hD hS => ?_)
      refine lv_aload_n hx hb dX8_openStatement_315 rfl (lv_at hl 0 rfl) ?_
      refine lv_iconst (v := 1) hx hb dX8_openStatement_316 (by decide) ?_
      refine lv_aload_n hx hb dX8_openStatement_317 rfl (lv_at hl 0 rfl) ?_
      refine va_get (D := D) (ci := 8) (v := .ref (ad 112)) (C := RX8) (T := TX8) (N := 48) hx hb hts layX8 hown hK hP 0 rfl rfl 21 (by decide) (hts _ (inA q999)) (fun _ h9 => h9) rfl dX8_openStatement_318 ?_
      refine lv_iload_n hx hb dX8_openStatement_321 rfl (lv_at hl 1 rfl) ?_
      obtain ⟨b52, hM⟩ := gd_use hM
      refine va_iald hx hb hK hP 5 0 rfl rfl b52 dX8_openStatement_322 ?_
      obtain ⟨r53, hcr53, hM⟩ := ob_use hM
      refine cl_V (As := [.int 1, .int (o_T.2.2.2.2.2.2.1 a1.toNatClampNeg)]) (rest := []) (wM0 ad o_X o_L o_N o_T o_U o_O o_E o_Q o_V r53 ++ wMT cI ad o_T ++ wMI cI ad r53) [] ⟨hx, hb, hml, hown, hts⟩ (c_Model_item l D cI sd ad o_C o_X o_L o_N o_T o_U o_O o_E o_Q o_V r51 1 (o_T.2.2.2.2.2.2.1 a1.toNatClampNeg) r53 hcr53) (cwV2 hts q1512 mvX8_item rfl rfl ⟨(Nat.le_of_ble_eq_true rfl), (Nat.le_of_ble_eq_true rfl)⟩) hK hE hA hP hD hS 0 (T := TX8) (N := 48) (ci := 8) rfl rfl [0, 8, 9] rfl (by decide) rfl rfl rfl rfl rfl rfl hl.1 (Nat.le_of_ble_eq_true rfl) dX8_openStatement_323 ⟨Nat.zero_le _, Nat.zero_le _⟩ (fun H locs hP hD hS => ?_)
      refine lv_goto (tgt := 367) hx hb dX8_openStatement_326 (by decide) ?_
      cases hM
      exact rt_v hx hb hr hlk hP hD hS rfl dX8_openStatement_367
  replace hM := if_f c44 hM
  by_cases c54 : (o_T.2.2.1 a1.toNatClampNeg) = 19
  · replace hM := if_t c54 hM
    refine lv_tableIn (tgt := 329) hx hb dX8_openStatement_6 (by rw [c54]; decide) (by rw [c54]; decide) (by rw [c54]; rfl) (by decide) ?_
    refine lv_aload_n hx hb dX8_openStatement_329 rfl (lv_at hl 0 rfl) ?_
    refine lv_iload_n hx hb dX8_openStatement_330 rfl (lv_at hl 1 rfl) ?_
    obtain ⟨r55, hcr55, hM⟩ := ob_use hM
    refine cl_V (As := [.int a1]) (rest := []) (wM0 ad o_X o_L o_N o_T o_U o_O o_E o_Q o_V r55 ++ wMT cI ad o_T ++ wMI cI ad r55) [] ⟨hx, hb, hml, hown, hts⟩ (c_Model_itemFor l D cI sd ad o_C o_X o_L o_N o_U o_O o_E o_Q o_V o_T o_I a1 r55 hcr55) (cwV2 hts q1575 mvX8_itemFor rfl rfl ⟨(Nat.le_of_ble_eq_true rfl), (Nat.le_of_ble_eq_true rfl)⟩) hK hE hA hP hD hS 0 (T := TX8) (N := 48) (ci := 8) rfl rfl [0, 1, 2, 3, 4, 5, 6, 7, 8, 9] rfl (by decide) rfl rfl rfl rfl rfl rfl hl.1 (Nat.le_of_ble_eq_true rfl) dX8_openStatement_331 ⟨Nat.zero_le _, Nat.zero_le _⟩ (fun H locs hP hD hS => ?_)
    refine lv_goto (tgt := 367) hx hb dX8_openStatement_334 (by decide) ?_
    cases hM
    exact rt_v hx hb hr hlk hP hD hS rfl dX8_openStatement_367
  replace hM := if_f c54 hM
  refine lv_tableOut (tgt := 337) hx hb dX8_openStatement_6 (by have := lv_neT c2 (show (12 : Int32).toInt = 12 by decide); have := lv_neT c9 (show (13 : Int32).toInt = 13 by decide); have := lv_neT c14 (show (14 : Int32).toInt = 14 by decide); have := lv_neT c20 (show (15 : Int32).toInt = 15 by decide); have := lv_neT c32 (show (16 : Int32).toInt = 16 by decide); have := lv_neT c41 (show (17 : Int32).toInt = 17 by decide); have := lv_neT c44 (show (18 : Int32).toInt = 18 by decide); have := lv_neT c54 (show (19 : Int32).toInt = 19 by decide); omega) (by decide) ?_
  refine lv_aload_n hx hb dX8_openStatement_337 rfl (lv_at hl 0 rfl) ?_
  refine lv_iconst (v := 0) hx hb dX8_openStatement_338 (by decide) ?_
  refine lv_bipush (v := 60) hx hb dX8_openStatement_339 (by decide) ?_
  obtain ⟨r56, hcr56, hM⟩ := ob_use hM
  refine cl_V (As := [.int 0, .int 60]) (rest := []) (wM0 ad o_X o_L o_N o_T o_U o_O o_E o_Q o_V r56 ++ wMT cI ad o_T ++ wMI cI ad r56) [] ⟨hx, hb, hml, hown, hts⟩ (c_Model_item l D cI sd ad o_C o_X o_L o_N o_T o_U o_O o_E o_Q o_V o_I 0 60 r56 hcr56) (cwV2 hts q1512 mvX8_item rfl rfl ⟨(Nat.le_of_ble_eq_true rfl), (Nat.le_of_ble_eq_true rfl)⟩) hK hE hA hP hD hS 0 (T := TX8) (N := 48) (ci := 8) rfl rfl [0, 8, 9] rfl (by decide) rfl rfl rfl rfl rfl rfl hl.1 (Nat.le_of_ble_eq_true rfl) dX8_openStatement_341 ⟨Nat.zero_le _, Nat.zero_le _⟩ (fun H locs hP hD hS => ?_)
  refine lv_aload_n hx hb dX8_openStatement_344 rfl (lv_at hl 0 rfl) ?_
  refine lv_iconst (v := 0) hx hb dX8_openStatement_345 (by decide) ?_
  refine lv_aload_n hx hb dX8_openStatement_346 rfl (lv_at hl 0 rfl) ?_
  refine va_get (D := D) (ci := 8) (v := .ref (ad 108)) (C := RX8) (T := TX8) (N := 48) hx hb hts layX8 hown hK hP 0 rfl rfl 17 (by decide) (hts _ (inA q995)) (fun _ h9 => h9) rfl dX8_openStatement_347 ?_
  refine lv_iload_n hx hb dX8_openStatement_350 rfl (lv_at hl 1 rfl) ?_
  obtain ⟨b57, hM⟩ := gd_use hM
  refine va_iald hx hb hK hP 1 0 rfl rfl b57 dX8_openStatement_351 ?_
  refine lv_bipush (v := 20) hx hb dX8_openStatement_352 (by decide) ?_
  refine lv_icmp_ne (tgt := 362) hx hb dX8_openStatement_354 (by decide) (fun c58 => ?_) (fun c58 => ?_)
  · replace hM := if_f c58 hM
    refine lv_bipush (v := 29) hx hb dX8_openStatement_362 (by decide) ?_
    obtain ⟨r59, hcr59, hM⟩ := ob_use hM
    refine cl_V (As := [.int 0, .int 29]) (rest := []) (wM0 ad o_X o_L o_N o_T o_U o_O o_E o_Q o_V r59 ++ wMT cI ad o_T ++ wMI cI ad r59) [] ⟨hx, hb, hml, hown, hts⟩ (c_Model_item l D cI sd ad o_C o_X o_L o_N o_T o_U o_O o_E o_Q o_V r56 0 29 r59 hcr59) (cwV2 hts q1512 mvX8_item rfl rfl ⟨(Nat.le_of_ble_eq_true rfl), (Nat.le_of_ble_eq_true rfl)⟩) hK hE hA hP hD hS 0 (T := TX8) (N := 48) (ci := 8) rfl rfl [0, 8, 9] rfl (by decide) rfl rfl rfl rfl rfl rfl hl.1 (Nat.le_of_ble_eq_true rfl) dX8_openStatement_364 ⟨Nat.zero_le _, Nat.zero_le _⟩ (fun H locs hP hD hS => ?_)
    cases hM
    exact rt_v hx hb hr hlk hP hD hS rfl dX8_openStatement_367
  · replace hM := if_t c58 hM
    refine lv_bipush (v := 28) hx hb dX8_openStatement_357 (by decide) ?_
    refine lv_goto (tgt := 364) hx hb dX8_openStatement_359 (by decide) ?_
    obtain ⟨r60, hcr60, hM⟩ := ob_use hM
    refine cl_V (As := [.int 0, .int 28]) (rest := []) (wM0 ad o_X o_L o_N o_T o_U o_O o_E o_Q o_V r60 ++ wMT cI ad o_T ++ wMI cI ad r60) [] ⟨hx, hb, hml, hown, hts⟩ (c_Model_item l D cI sd ad o_C o_X o_L o_N o_T o_U o_O o_E o_Q o_V r56 0 28 r60 hcr60) (cwV2 hts q1512 mvX8_item rfl rfl ⟨(Nat.le_of_ble_eq_true rfl), (Nat.le_of_ble_eq_true rfl)⟩) hK hE hA hP hD hS 0 (T := TX8) (N := 48) (ci := 8) rfl rfl [0, 8, 9] rfl (by decide) rfl rfl rfl rfl rfl rfl hl.1 (Nat.le_of_ble_eq_true rfl) dX8_openStatement_364 ⟨Nat.zero_le _, Nat.zero_le _⟩ (fun H locs hP hD hS => ?_)
    cases hM
    exact rt_v hx hb hr hlk hP hD hS rfl dX8_openStatement_367

set_option maxHeartbeats 4000000 in
set_option maxRecDepth 100000 in
theorem c_Model_openOperand (l : Launch) (D : va_G) (cI : ClassId) (sd : Nat → Nat) (ad : Nat → Nat) (o_X : S_MX) (o_L : S_ML) (o_N : S_MN) (o_U : S_MU) (o_O : S_MO) (o_E : S_ME) (o_Q : S_MQ) (o_C : S_MC) (o_T : S_MT) (o_V : S_MV) (o_I : S_MI) (a1 : Int32) (res : S_MV × S_MI) (hM : f_Model_openOperand o_C o_T o_V o_I a1 = some res) : Ctr l D cI sd yX8_openOperand (wsM yX8_openOperand cX8_openOperand 2 (Option.none : Option Jvm.ClassFile.FieldType)) { frames := 4, cells := 0, slots := 0, locals := 86 } [.ref (ad 100), .int a1] (wM0 ad o_X o_L o_N o_T o_U o_O o_E o_Q o_V o_I ++ wMC cI ad o_C ++ wMT cI ad o_T ++ wMV cI ad o_V ++ wMI cI ad o_I) (wM0 ad o_X o_L o_N o_T o_U o_O o_E o_Q res.1 res.2 ++ wMC cI ad o_C ++ wMT cI ad o_T ++ wMV cI ad res.1 ++ wMI cI ad res.2) none := by
  refine Ctr.of (cc := cX8_openOperand) (maxL := 2) (own := RX8) (by decide +kernel) rfl rfl (Nat.le_of_ble_eq_true rfl) ?_
  intro p e s m below meth c A ls hx hb hr hml hown hts hlk hK hE hA hP hD hS hl
  have hl : lv_has ls 2 [(0, .ref (ad 100)), (1, .int a1)] := hl
  unfold f_Model_openOperand at hM
  refine lv_aload_n hx hb dX8_openOperand_0 rfl (lv_at hl 0 rfl) ?_
  refine va_get (D := D) (ci := 8) (v := .ref (ad 108)) (C := RX8) (T := TX8) (N := 48) hx hb hts layX8 hown hK hP 0 rfl rfl 17 (by decide) (hts _ (inA q995)) (fun _ h9 => h9) rfl dX8_openOperand_1 ?_
  refine lv_iload_n hx hb dX8_openOperand_4 rfl (lv_at hl 1 rfl) ?_
  obtain ⟨b1, hM⟩ := gd_use hM
  refine va_iald hx hb hK hP 5 0 rfl rfl b1 dX8_openOperand_5 ?_
  by_cases c2 : (o_T.2.2.1 a1.toNatClampNeg) = 30
  · replace hM := if_t c2 hM
    refine lv_tableIn (tgt := 44) hx hb dX8_openOperand_6 (by rw [c2]; decide) (by rw [c2]; decide) (by rw [c2]; rfl) (by decide) ?_
    refine lv_aload_n hx hb dX8_openOperand_44 rfl (lv_at hl 0 rfl) ?_
    refine lv_aload_n hx hb dX8_openOperand_45 rfl (lv_at hl 0 rfl) ?_
    refine va_get (D := D) (ci := 8) (v := .ref (ad 110)) (C := RX8) (T := TX8) (N := 48) hx hb hts layX8 hown hK hP 0 rfl rfl 19 (by decide) (hts _ (inA q997)) (fun _ h9 => h9) rfl dX8_openOperand_46 ?_
    refine lv_iload_n hx hb dX8_openOperand_49 rfl (lv_at hl 1 rfl) ?_
    obtain ⟨b3, hM⟩ := gd_use hM
    refine va_iald hx hb hK hP 7 0 rfl rfl b3 dX8_openOperand_50 ?_
    obtain ⟨r4, hcr4, hM⟩ := ob_use hM
    refine cl_V (As := [.int (o_T.2.2.2.2.1 a1.toNatClampNeg)]) (rest := []) (wM0 ad o_X o_L o_N o_T o_U o_O o_E o_Q r4 o_I ++ wMC cI ad o_C ++ wMT cI ad o_T ++ wMV cI ad r4 ++ wMI cI ad o_I) [] ⟨hx, hb, hml, hown, hts⟩ (c_Model_putNumber l D cI sd ad o_C o_X o_L o_N o_T o_U o_O o_E o_Q o_I o_V (o_T.2.2.2.2.1 a1.toNatClampNeg) r4 hcr4) (cwV2 hts q1587 mvX8_putNumber rfl rfl ⟨(Nat.le_of_ble_eq_true rfl), (Nat.le_of_ble_eq_true rfl)⟩) hK hE hA hP hD hS 0 (T := TX8) (N := 48) (ci := 8) rfl rfl [0, 12] rfl (by decide) rfl rfl rfl rfl rfl rfl hl.1 (Nat.le_of_ble_eq_true rfl) dX8_openOperand_51 ⟨Nat.zero_le _, Nat.zero_le _⟩ (fun H locs hP hD hS => ?_)
    refine lv_goto (tgt := 228) hx hb dX8_openOperand_54 (by decide) ?_
    cases hM
    exact rt_v hx hb hr hlk hP hD hS rfl dX8_openOperand_228
  replace hM := if_f c2 hM
  by_cases c5 : (o_T.2.2.1 a1.toNatClampNeg) = 31
  · replace hM := if_t c5 hM
    refine lv_tableIn (tgt := 57) hx hb dX8_openOperand_6 (by rw [c5]; decide) (by rw [c5]; decide) (by rw [c5]; rfl) (by decide) ?_
    refine lv_aload_n hx hb dX8_openOperand_57 rfl (lv_at hl 0 rfl) ?_
    refine lv_aload_n hx hb dX8_openOperand_58 rfl (lv_at hl 0 rfl) ?_
    refine va_get (D := D) (ci := 8) (v := .ref (ad 110)) (C := RX8) (T := TX8) (N := 48) hx hb hts layX8 hown hK hP 0 rfl rfl 19 (by decide) (hts _ (inA q997)) (fun _ h9 => h9) rfl dX8_openOperand_59 ?_
    refine lv_iload_n hx hb dX8_openOperand_62 rfl (lv_at hl 1 rfl) ?_
    obtain ⟨b6, hM⟩ := gd_use hM
    refine va_iald hx hb hK hP 7 0 rfl rfl b6 dX8_openOperand_63 ?_
    refine lv_iconst (v := 1) hx hb dX8_openOperand_64 (by decide) ?_
    refine lv_icmp_ne (tgt := 73) hx hb dX8_openOperand_65 (by decide) (fun c7 => ?_) (fun c7 => ?_)
    · replace hM := if_f c7 hM
      refine lv_bipush (v := 36) hx hb dX8_openOperand_73 (by decide) ?_
      obtain ⟨r8, hcr8, hM⟩ := ob_use hM
      refine cl_V (As := [.int 36]) (rest := []) (wM0 ad o_X o_L o_N o_T o_U o_O o_E o_Q r8 o_I ++ wMC cI ad o_C ++ wMT cI ad o_T ++ wMV cI ad r8 ++ wMI cI ad o_I) [] ⟨hx, hb, hml, hown, hts⟩ (c_Model_putToken l D cI sd ad o_X o_L o_N o_T o_U o_O o_E o_Q o_I o_C o_V 36 r8 hcr8) (cwV2 hts q1520 mvX8_putToken rfl rfl ⟨(Nat.le_of_ble_eq_true rfl), (Nat.le_of_ble_eq_true rfl)⟩) hK hE hA hP hD hS 0 (T := TX8) (N := 48) (ci := 8) rfl rfl [0, 1, 2, 3, 4, 12] rfl (by decide) rfl rfl rfl rfl rfl rfl hl.1 (Nat.le_of_ble_eq_true rfl) dX8_openOperand_75 ⟨Nat.zero_le _, Nat.zero_le _⟩ (fun H locs hP hD hS => ?_)
      refine lv_goto (tgt := 228) hx hb dX8_openOperand_78 (by decide) ?_
      cases hM
      exact rt_v hx hb hr hlk hP hD hS rfl dX8_openOperand_228
    · replace hM := if_t c7 hM
      refine lv_bipush (v := 35) hx hb dX8_openOperand_68 (by decide) ?_
      refine lv_goto (tgt := 75) hx hb dX8_openOperand_70 (by decide) ?_
      obtain ⟨r9, hcr9, hM⟩ := ob_use hM
      refine cl_V (As := [.int 35]) (rest := []) (wM0 ad o_X o_L o_N o_T o_U o_O o_E o_Q r9 o_I ++ wMC cI ad o_C ++ wMT cI ad o_T ++ wMV cI ad r9 ++ wMI cI ad o_I) [] ⟨hx, hb, hml, hown, hts⟩ (c_Model_putToken l D cI sd ad o_X o_L o_N o_T o_U o_O o_E o_Q o_I o_C o_V 35 r9 hcr9) (cwV2 hts q1520 mvX8_putToken rfl rfl ⟨(Nat.le_of_ble_eq_true rfl), (Nat.le_of_ble_eq_true rfl)⟩) hK hE hA hP hD hS 0 (T := TX8) (N := 48) (ci := 8) rfl rfl [0, 1, 2, 3, 4, 12] rfl (by decide) rfl rfl rfl rfl rfl rfl hl.1 (Nat.le_of_ble_eq_true rfl) dX8_openOperand_75 ⟨Nat.zero_le _, Nat.zero_le _⟩ (fun H locs hP hD hS => ?_)
      refine lv_goto (tgt := 228) hx hb dX8_openOperand_78 (by decide) ?_
      cases hM
      exact rt_v hx hb hr hlk hP hD hS rfl dX8_openOperand_228
  replace hM := if_f c5 hM
  by_cases c10 : (o_T.2.2.1 a1.toNatClampNeg) = 32
  · replace hM := if_t c10 hM
    refine lv_tableIn (tgt := 81) hx hb dX8_openOperand_6 (by rw [c10]; decide) (by rw [c10]; decide) (by rw [c10]; rfl) (by decide) ?_
    refine lv_aload_n hx hb dX8_openOperand_81 rfl (lv_at hl 0 rfl) ?_
    refine lv_bipush (v := 58) hx hb dX8_openOperand_82 (by decide) ?_
    refine lv_iconst (v := 1) hx hb dX8_openOperand_84 (by decide) ?_
    refine lv_iload_n hx hb dX8_openOperand_85 rfl (lv_at hl 1 rfl) ?_
    refine lv_bipush (v := 57) hx hb dX8_openOperand_86 (by decide) ?_
    obtain ⟨r11, hcr11, hM⟩ := ob_use hM
    refine cl_V (As := [.int 58, .int 1, .int a1, .int 57]) (rest := []) (wM0 ad o_X o_L o_N o_T o_U o_O o_E o_Q o_V r11 ++ wMC cI ad o_C ++ wMT cI ad o_T ++ wMV cI ad o_V ++ wMI cI ad r11) [] ⟨hx, hb, hml, hown, hts⟩ (c_Model_itemAll l D cI sd ad o_C o_X o_L o_N o_U o_O o_E o_Q o_V o_T o_I 58 1 a1 57 r11 hcr11) (cwV2 hts q1559 mvX8_itemAll rfl rfl ⟨(Nat.le_of_ble_eq_true rfl), (Nat.le_of_ble_eq_true rfl)⟩) hK hE hA hP hD hS 0 (T := TX8) (N := 48) (ci := 8) rfl rfl [0, 5, 6, 7, 8, 9, 10, 11, 13, 14] rfl (by decide) rfl rfl rfl rfl rfl rfl hl.1 (Nat.le_of_ble_eq_true rfl) dX8_openOperand_88 ⟨Nat.zero_le _, Nat.zero_le _⟩ (fun H locs hP hD hS => ?_)
    refine lv_aload_n hx hb dX8_openOperand_91 rfl (lv_at hl 0 rfl) ?_
    refine lv_bipush (v := 8) hx hb dX8_openOperand_92 (by decide) ?_
    refine lv_aload_n hx hb dX8_openOperand_94 rfl (lv_at hl 0 rfl) ?_
    refine va_get (D := D) (ci := 8) (v := .ref (ad 110)) (C := RX8) (T := TX8) (N := 48) hx hb hts layX8 hown hK hP 0 rfl rfl 19 (by decide) (hts _ (inA q997)) (fun _ h9 => h9) rfl dX8_openOperand_95 ?_
    refine lv_iload_n hx hb dX8_openOperand_98 rfl (lv_at hl 1 rfl) ?_
    obtain ⟨b12, hM⟩ := gd_use hM
    refine va_iald hx hb hK hP 7 0 rfl rfl b12 dX8_openOperand_99 ?_
    obtain ⟨r13, hcr13, hM⟩ := ob_use hM
    refine cl_V (As := [.int 8, .int (o_T.2.2.2.2.1 a1.toNatClampNeg)]) (rest := []) (wM0 ad o_X o_L o_N o_T o_U o_O o_E o_Q o_V r13 ++ wMC cI ad o_C ++ wMT cI ad o_T ++ wMV cI ad o_V ++ wMI cI ad r13) [] ⟨hx, hb, hml, hown, hts⟩ (c_Model_item l D cI sd ad o_C o_X o_L o_N o_T o_U o_O o_E o_Q o_V r11 8 (o_T.2.2.2.2.1 a1.toNatClampNeg) r13 hcr13) (cwV2 hts q1512 mvX8_item rfl rfl ⟨(Nat.le_of_ble_eq_true rfl), (Nat.le_of_ble_eq_true rfl)⟩) hK hE hA hP hD hS 0 (T := TX8) (N := 48) (ci := 8) rfl rfl [0, 13, 14] rfl (by decide) rfl rfl rfl rfl rfl rfl hl.1 (Nat.le_of_ble_eq_true rfl) dX8_openOperand_100 ⟨Nat.zero_le _, Nat.zero_le _⟩ (fun H locs hP hD hS => ?_)
    refine lv_goto (tgt := 228) hx hb dX8_openOperand_103 (by decide) ?_
    cases hM
    exact rt_v hx hb hr hlk hP hD hS rfl dX8_openOperand_228
  replace hM := if_f c10 hM
  by_cases c14 : (o_T.2.2.1 a1.toNatClampNeg) = 33
  · replace hM := if_t c14 hM
    refine lv_tableIn (tgt := 106) hx hb dX8_openOperand_6 (by rw [c14]; decide) (by rw [c14]; decide) (by rw [c14]; rfl) (by decide) ?_
    refine lv_aload_n hx hb dX8_openOperand_106 rfl (lv_at hl 0 rfl) ?_
    refine lv_iconst (v := (-1)) hx hb dX8_openOperand_107 (by decide) ?_
    refine lv_iconst (v := 1) hx hb dX8_openOperand_108 (by decide) ?_
    refine lv_iload_n hx hb dX8_openOperand_109 rfl (lv_at hl 1 rfl) ?_
    refine lv_bipush (v := 62) hx hb dX8_openOperand_110 (by decide) ?_
    obtain ⟨r15, hcr15, hM⟩ := ob_use hM
    refine cl_V (As := [.int (-1), .int 1, .int a1, .int 62]) (rest := []) (wM0 ad o_X o_L o_N o_T o_U o_O o_E o_Q o_V r15 ++ wMC cI ad o_C ++ wMT cI ad o_T ++ wMV cI ad o_V ++ wMI cI ad r15) [] ⟨hx, hb, hml, hown, hts⟩ (c_Model_itemAll l D cI sd ad o_C o_X o_L o_N o_U o_O o_E o_Q o_V o_T o_I (-1) 1 a1 62 r15 hcr15) (cwV2 hts q1559 mvX8_itemAll rfl rfl ⟨(Nat.le_of_ble_eq_true rfl), (Nat.le_of_ble_eq_true rfl)⟩) hK hE hA hP hD hS 0 (T := TX8) (N := 48) (ci := 8) rfl rfl [0, 5, 6, 7, 8, 9, 10, 11, 13, 14] rfl (by decide) rfl rfl rfl rfl rfl rfl hl.1 (Nat.le_of_ble_eq_true rfl) dX8_openOperand_112 ⟨Nat.zero_le _, Nat.zero_le _⟩ (fun H locs hP hD hS => ?_)
    refine lv_aload_n hx hb dX8_openOperand_115 rfl (lv_at hl 0 rfl) ?_
    refine lv_bipush (v := 8) hx hb dX8_openOperand_116 (by decide) ?_
    refine lv_aload_n hx hb dX8_openOperand_118 rfl (lv_at hl 0 rfl) ?_
    refine va_get (D := D) (ci := 8) (v := .ref (ad 110)) (C := RX8) (T := TX8) (N := 48) hx hb hts layX8 hown hK hP 0 rfl rfl 19 (by decide) (hts _ (inA q997)) (fun _ h9 => h9) rfl dX8_openOperand_119 ?_
    refine lv_iload_n hx hb dX8_openOperand_122 rfl (lv_at hl 1 rfl) ?_
    obtain ⟨b16, hM⟩ := gd_use hM
    refine va_iald hx hb hK hP 7 0 rfl rfl b16 dX8_openOperand_123 ?_
    obtain ⟨r17, hcr17, hM⟩ := ob_use hM
    refine cl_V (As := [.int 8, .int (o_T.2.2.2.2.1 a1.toNatClampNeg)]) (rest := []) (wM0 ad o_X o_L o_N o_T o_U o_O o_E o_Q o_V r17 ++ wMC cI ad o_C ++ wMT cI ad o_T ++ wMV cI ad o_V ++ wMI cI ad r17) [] ⟨hx, hb, hml, hown, hts⟩ (c_Model_item l D cI sd ad o_C o_X o_L o_N o_T o_U o_O o_E o_Q o_V r15 8 (o_T.2.2.2.2.1 a1.toNatClampNeg) r17 hcr17) (cwV2 hts q1512 mvX8_item rfl rfl ⟨(Nat.le_of_ble_eq_true rfl), (Nat.le_of_ble_eq_true rfl)⟩) hK hE hA hP hD hS 0 (T := TX8) (N := 48) (ci := 8) rfl rfl [0, 13, 14] rfl (by decide) rfl rfl rfl rfl rfl rfl hl.1 (Nat.le_of_ble_eq_true rfl) dX8_openOperand_124 ⟨Nat.zero_le _, Nat.zero_le _⟩ (fun H locs hP hD hS => ?_)
    refine lv_goto (tgt := 228) hx hb dX8_openOperand_127 (by decide) ?_
    cases hM
    exact rt_v hx hb hr hlk hP hD hS rfl dX8_openOperand_228
  replace hM := if_f c14 hM
  by_cases c18 : (o_T.2.2.1 a1.toNatClampNeg) = 34
  · replace hM := if_t c18 hM
    refine lv_tableIn (tgt := 130) hx hb dX8_openOperand_6 (by rw [c18]; decide) (by rw [c18]; decide) (by rw [c18]; rfl) (by decide) ?_
    refine lv_aload_n hx hb dX8_openOperand_130 rfl (lv_at hl 0 rfl) ?_
    refine lv_bipush (v := 56) hx hb dX8_openOperand_131 (by decide) ?_
    refine lv_iconst (v := 3) hx hb dX8_openOperand_133 (by decide) ?_
    refine lv_iload_n hx hb dX8_openOperand_134 rfl (lv_at hl 1 rfl) ?_
    refine lv_bipush (v := 55) hx hb dX8_openOperand_135 (by decide) ?_
    obtain ⟨r19, hcr19, hM⟩ := ob_use hM
    refine cl_V (As := [.int 56, .int 3, .int a1, .int 55]) (rest := []) (wM0 ad o_X o_L o_N o_T o_U o_O o_E o_Q o_V r19 ++ wMC cI ad o_C ++ wMT cI ad o_T ++ wMV cI ad o_V ++ wMI cI ad r19) [] ⟨hx, hb, hml, hown, hts⟩ (c_Model_itemAll l D cI sd ad o_C o_X o_L o_N o_U o_O o_E o_Q o_V o_T o_I 56 3 a1 55 r19 hcr19) (cwV2 hts q1559 mvX8_itemAll rfl rfl ⟨(Nat.le_of_ble_eq_true rfl), (Nat.le_of_ble_eq_true rfl)⟩) hK hE hA hP hD hS 0 (T := TX8) (N := 48) (ci := 8) rfl rfl [0, 5, 6, 7, 8, 9, 10, 11, 13, 14] rfl (by decide) rfl rfl rfl rfl rfl rfl hl.1 (Nat.le_of_ble_eq_true rfl) dX8_openOperand_137 ⟨Nat.zero_le _, Nat.zero_le _⟩ (fun H locs hP hD hS => ?_)
    refine lv_aload_n hx hb dX8_openOperand_140 rfl (lv_at hl 0 rfl) ?_
    refine lv_bipush (v := 8) hx hb dX8_openOperand_141 (by decide) ?_
    refine lv_aload_n hx hb dX8_openOperand_143 rfl (lv_at hl 0 rfl) ?_
    refine va_get (D := D) (ci := 8) (v := .ref (ad 110)) (C := RX8) (T := TX8) (N := 48) hx hb hts layX8 hown hK hP 0 rfl rfl 19 (by decide) (hts _ (inA q997)) (fun _ h9 => h9) rfl dX8_openOperand_144 ?_
    refine lv_iload_n hx hb dX8_openOperand_147 rfl (lv_at hl 1 rfl) ?_
    obtain ⟨b20, hM⟩ := gd_use hM
    refine va_iald hx hb hK hP 7 0 rfl rfl b20 dX8_openOperand_148 ?_
    obtain ⟨r21, hcr21, hM⟩ := ob_use hM
    refine cl_V (As := [.int 8, .int (o_T.2.2.2.2.1 a1.toNatClampNeg)]) (rest := []) (wM0 ad o_X o_L o_N o_T o_U o_O o_E o_Q o_V r21 ++ wMC cI ad o_C ++ wMT cI ad o_T ++ wMV cI ad o_V ++ wMI cI ad r21) [] ⟨hx, hb, hml, hown, hts⟩ (c_Model_item l D cI sd ad o_C o_X o_L o_N o_T o_U o_O o_E o_Q o_V r19 8 (o_T.2.2.2.2.1 a1.toNatClampNeg) r21 hcr21) (cwV2 hts q1512 mvX8_item rfl rfl ⟨(Nat.le_of_ble_eq_true rfl), (Nat.le_of_ble_eq_true rfl)⟩) hK hE hA hP hD hS 0 (T := TX8) (N := 48) (ci := 8) rfl rfl [0, 13, 14] rfl (by decide) rfl rfl rfl rfl rfl rfl hl.1 (Nat.le_of_ble_eq_true rfl) dX8_openOperand_149 ⟨Nat.zero_le _, Nat.zero_le _⟩ (fun H locs hP hD hS => ?_)
    refine lv_goto (tgt := 228) hx hb dX8_openOperand_152 (by decide) ?_
    cases hM
    exact rt_v hx hb hr hlk hP hD hS rfl dX8_openOperand_228
  replace hM := if_f c18 hM
  by_cases c22 : (o_T.2.2.1 a1.toNatClampNeg) = 35
  · replace hM := if_t c22 hM
    refine lv_tableIn (tgt := 155) hx hb dX8_openOperand_6 (by rw [c22]; decide) (by rw [c22]; decide) (by rw [c22]; rfl) (by decide) ?_
    refine lv_aload_n hx hb dX8_openOperand_155 rfl (lv_at hl 0 rfl) ?_
    refine lv_aload_n hx hb dX8_openOperand_156 rfl (lv_at hl 0 rfl) ?_
    refine lv_iload_n hx hb dX8_openOperand_157 rfl (lv_at hl 1 rfl) ?_
    obtain ⟨r23, hcr23, hM⟩ := ob_use hM
    refine cl_V (As := [.int a1]) (rest := [.ref (ad 100)]) (wM0 ad o_X o_L o_N o_T o_U o_O o_E o_Q o_V o_I ++ wMC cI ad o_C ++ wMT cI ad o_T ++ wMV cI ad o_V ++ wMI cI ad o_I) (.int r23 :: [.ref (ad 100)]) ⟨hx, hb, hml, hown, hts⟩ (c_Model_second l D cI sd ad o_C o_X o_L o_N o_U o_O o_E o_Q o_V o_I o_T a1 r23 hcr23) (cwV2 hts q1555 mvX8_second rfl rfl ⟨(Nat.le_of_ble_eq_true rfl), (Nat.le_of_ble_eq_true rfl)⟩) hK hE hA hP hD hS 0 (T := TX8) (N := 48) (ci := 8) rfl rfl [0, 5, 6, 7, 8, 9, 10, 11] rfl (by decide) rfl rfl rfl rfl rfl rfl hl.1 (Nat.le_of_ble_eq_true rfl) dX8_openOperand_158 ⟨Nat.zero_le _, Nat.zero_le _⟩ (fun H locs hP hD hS => ?_)
    refine lv_iload_n hx hb dX8_openOperand_161 rfl (lv_at hl 1 rfl) ?_
    refine lv_iconst (v := 1) hx hb dX8_openOperand_162 (by decide) ?_
    obtain ⟨r24, hcr24, hM⟩ := ob_use hM
    refine cl_V (As := [.int r23, .int a1, .int 1]) (rest := []) (wM0 ad o_X o_L o_N o_T o_U o_O o_E o_Q o_V r24 ++ wMC cI ad o_C ++ wMT cI ad o_T ++ wMV cI ad o_V ++ wMI cI ad r24) [] ⟨hx, hb, hml, hown, hts⟩ (c_Model_itemOperand l D cI sd ad o_C o_X o_L o_N o_U o_O o_E o_Q o_V o_T o_I r23 a1 1 r24 hcr24) (cwV2 hts q1593 mvX8_itemOperand rfl rfl ⟨(Nat.le_of_ble_eq_true rfl), (Nat.le_of_ble_eq_true rfl)⟩) hK hE hA hP hD hS 0 (T := TX8) (N := 48) (ci := 8) rfl rfl [0, 5, 6, 7, 8, 9, 10, 11, 13, 14] rfl (by decide) rfl rfl rfl rfl rfl rfl hl.1 (Nat.le_of_ble_eq_true rfl) dX8_openOperand_163 ⟨Nat.zero_le _, Nat.zero_le _⟩ (fun H locs hP hD hS => ?_)
    refine lv_aload_n hx hb dX8_openOperand_166 rfl (lv_at hl 0 rfl) ?_
    refine lv_iconst (v := 0) hx hb dX8_openOperand_167 (by decide) ?_
    refine lv_aload_n hx hb dX8_openOperand_168 rfl (lv_at hl 0 rfl) ?_
    refine va_get (D := D) (ci := 8) (v := .ref (ad 110)) (C := RX8) (T := TX8) (N := 48) hx hb hts layX8 hown hK hP 0 rfl rfl 19 (by decide) (hts _ (inA q997)) (fun _ h9 => h9) rfl dX8_openOperand_169 ?_
    refine lv_iload_n hx hb dX8_openOperand_172 rfl (lv_at hl 1 rfl) ?_
    obtain ⟨b25, hM⟩ := gd_use hM
    refine va_iald hx hb hK hP 7 0 rfl rfl b25 dX8_openOperand_173 ?_
    obtain ⟨r26, hcr26, hM⟩ := ob_use hM
    refine cl_S (As := [.int (o_T.2.2.2.2.1 a1.toNatClampNeg)]) (rest := [.int 0, .ref (ad 100)]) (wM0 ad o_X o_L o_N o_T o_U o_O o_E o_Q o_V r24 ++ wMC cI ad o_C ++ wMT cI ad o_T ++ wMV cI ad o_V ++ wMI cI ad r24) (.int r26 :: [.int 0, .ref (ad 100)]) ⟨hx, hb, hml, hown, hts⟩ (c_Model_tokenOf l D cI sd ad (o_T.2.2.2.2.1 a1.toNatClampNeg) r26 hcr26) (cwS2 hts q1597 mvX8_tokenOf rfl rfl ⟨(Nat.le_of_ble_eq_true rfl), (Nat.le_of_ble_eq_true rfl)⟩) hK hE hA hP hD hS [] rfl (by decide) rfl rfl rfl rfl rfl rfl hl.1 (Nat.le_of_ble_eq_true rfl) dX8_openOperand_174 ⟨Nat.zero_le _, Nat.zero_le _⟩ (fun H locs hP hD hS => ?_)
    obtain ⟨r27, hcr27, hM⟩ := ob_use hM
    refine cl_V (As := [.int 0, .int r26]) (rest := []) (wM0 ad o_X o_L o_N o_T o_U o_O o_E o_Q o_V r27 ++ wMC cI ad o_C ++ wMT cI ad o_T ++ wMV cI ad o_V ++ wMI cI ad r27) [] ⟨hx, hb, hml, hown, hts⟩ (c_Model_item l D cI sd ad o_C o_X o_L o_N o_T o_U o_O o_E o_Q o_V r24 0 r26 r27 hcr27) (cwV2 hts q1512 mvX8_item rfl rfl ⟨(Nat.le_of_ble_eq_true rfl), (Nat.le_of_ble_eq_true rfl)⟩) hK hE hA hP hD hS 0 (T := TX8) (N := 48) (ci := 8) rfl rfl [0, 13, 14] rfl (by decide) rfl rfl rfl rfl rfl rfl hl.1 (Nat.le_of_ble_eq_true rfl) dX8_openOperand_177 ⟨Nat.zero_le _, Nat.zero_le _⟩ (fun H locs hP hD hS => ?_)
    refine lv_aload_n hx hb dX8_openOperand_180 rfl (lv_at hl 0 rfl) ?_
    refine lv_aload_n hx hb dX8_openOperand_181 rfl (lv_at hl 0 rfl) ?_
    refine va_get (D := D) (ci := 8) (v := .ref (ad 112)) (C := RX8) (T := TX8) (N := 48) hx hb hts layX8 hown hK hP 0 rfl rfl 21 (by decide) (hts _ (inA q999)) (fun _ h9 => h9) rfl dX8_openOperand_182 ?_
    refine lv_iload_n hx hb dX8_openOperand_185 rfl (lv_at hl 1 rfl) ?_
    obtain ⟨b28, hM⟩ := gd_use hM
    refine va_iald hx hb hK hP 9 0 rfl rfl b28 dX8_openOperand_186 ?_
    refine lv_iload_n hx hb dX8_openOperand_187 rfl (lv_at hl 1 rfl) ?_
    refine lv_iconst (v := 0) hx hb dX8_openOperand_188 (by decide) ?_
    obtain ⟨r29, hcr29, hM⟩ := ob_use hM
    refine cl_V (As := [.int (o_T.2.2.2.2.2.2.1 a1.toNatClampNeg), .int a1, .int 0]) (rest := []) (wM0 ad o_X o_L o_N o_T o_U o_O o_E o_Q o_V r29 ++ wMC cI ad o_C ++ wMT cI ad o_T ++ wMV cI ad o_V ++ wMI cI ad r29) [] ⟨hx, hb, hml, hown, hts⟩ (c_Model_itemOperand l D cI sd ad o_C o_X o_L o_N o_U o_O o_E o_Q o_V o_T r27 (o_T.2.2.2.2.2.2.1 a1.toNatClampNeg) a1 0 r29 hcr29) (cwV2 hts q1593 mvX8_itemOperand rfl rfl ⟨(Nat.le_of_ble_eq_true rfl), (Nat.le_of_ble_eq_true rfl)⟩) hK hE hA hP hD hS 0 (T := TX8) (N := 48) (ci := 8) rfl rfl [0, 5, 6, 7, 8, 9, 10, 11, 13, 14] rfl (by decide) rfl rfl rfl rfl rfl rfl hl.1 (Nat.le_of_ble_eq_true rfl) dX8_openOperand_189 ⟨Nat.zero_le _, Nat.zero_le _⟩ (fun H locs hP hD hS => ?_)
    refine lv_goto (tgt := 228) hx hb dX8_openOperand_192 (by decide) ?_
    cases hM
    exact rt_v hx hb hr hlk hP hD hS rfl dX8_openOperand_228
  replace hM := if_f c22 hM
  refine lv_tableOut (tgt := 195) hx hb dX8_openOperand_6 (by have := lv_neT c2 (show (30 : Int32).toInt = 30 by decide); have := lv_neT c5 (show (31 : Int32).toInt = 31 by decide); have := lv_neT c10 (show (32 : Int32).toInt = 32 by decide); have := lv_neT c14 (show (33 : Int32).toInt = 33 by decide); have := lv_neT c18 (show (34 : Int32).toInt = 34 by decide); have := lv_neT c22 (show (35 : Int32).toInt = 35 by decide); omega) (by decide) ?_
  refine lv_aload_n hx hb dX8_openOperand_195 rfl (lv_at hl 0 rfl) ?_
  refine lv_aload_n hx hb dX8_openOperand_196 rfl (lv_at hl 0 rfl) ?_
  refine va_get (D := D) (ci := 8) (v := .ref (ad 112)) (C := RX8) (T := TX8) (N := 48) hx hb hts layX8 hown hK hP 0 rfl rfl 21 (by decide) (hts _ (inA q999)) (fun _ h9 => h9) rfl dX8_openOperand_197 ?_
  refine lv_iload_n hx hb dX8_openOperand_200 rfl (lv_at hl 1 rfl) ?_
  obtain ⟨b30, hM⟩ := gd_use hM
  refine va_iald hx hb hK hP 9 0 rfl rfl b30 dX8_openOperand_201 ?_
  refine lv_iload_n hx hb dX8_openOperand_202 rfl (lv_at hl 1 rfl) ?_
  refine lv_iconst (v := 0) hx hb dX8_openOperand_203 (by decide) ?_
  obtain ⟨r31, hcr31, hM⟩ := ob_use hM
  refine cl_V (As := [.int (o_T.2.2.2.2.2.2.1 a1.toNatClampNeg), .int a1, .int 0]) (rest := []) (wM0 ad o_X o_L o_N o_T o_U o_O o_E o_Q o_V r31 ++ wMC cI ad o_C ++ wMT cI ad o_T ++ wMV cI ad o_V ++ wMI cI ad r31) [] ⟨hx, hb, hml, hown, hts⟩ (c_Model_itemOperand l D cI sd ad o_C o_X o_L o_N o_U o_O o_E o_Q o_V o_T o_I (o_T.2.2.2.2.2.2.1 a1.toNatClampNeg) a1 0 r31 hcr31) (cwV2 hts q1593 mvX8_itemOperand rfl rfl ⟨(Nat.le_of_ble_eq_true rfl), (Nat.le_of_ble_eq_true rfl)⟩) hK hE hA hP hD hS 0 (T := TX8) (N := 48) (ci := 8) rfl rfl [0, 5, 6, 7, 8, 9, 10, 11, 13, 14] rfl (by decide) rfl rfl rfl rfl rfl rfl hl.1 (Nat.le_of_ble_eq_true rfl) dX8_openOperand_204 ⟨Nat.zero_le _, Nat.zero_le _⟩ (fun H locs hP hD hS => ?_)
  refine lv_aload_n hx hb dX8_openOperand_207 rfl (lv_at hl 0 rfl) ?_
  refine lv_iconst (v := 0) hx hb dX8_openOperand_208 (by decide) ?_
  refine lv_aload_n hx hb dX8_openOperand_209 rfl (lv_at hl 0 rfl) ?_
  refine va_get (D := D) (ci := 8) (v := .ref (ad 110)) (C := RX8) (T := TX8) (N := 48) hx hb hts layX8 hown hK hP 0 rfl rfl 19 (by decide) (hts _ (inA q997)) (fun _ h9 => h9) rfl dX8_openOperand_210 ?_
  refine lv_iload_n hx hb dX8_openOperand_213 rfl (lv_at hl 1 rfl) ?_
  obtain ⟨b32, hM⟩ := gd_use hM
  refine va_iald hx hb hK hP 7 0 rfl rfl b32 dX8_openOperand_214 ?_
  refine lv_if_ne (tgt := 223) hx hb dX8_openOperand_215 (by decide) (fun c33 => ?_) (fun c33 => ?_)
  · replace hM := if_f c33 hM
    refine lv_bipush (v := 34) hx hb dX8_openOperand_223 (by decide) ?_
    obtain ⟨r34, hcr34, hM⟩ := ob_use hM
    refine cl_V (As := [.int 0, .int 34]) (rest := []) (wM0 ad o_X o_L o_N o_T o_U o_O o_E o_Q o_V r34 ++ wMC cI ad o_C ++ wMT cI ad o_T ++ wMV cI ad o_V ++ wMI cI ad r34) [] ⟨hx, hb, hml, hown, hts⟩ (c_Model_item l D cI sd ad o_C o_X o_L o_N o_T o_U o_O o_E o_Q o_V r31 0 34 r34 hcr34) (cwV2 hts q1512 mvX8_item rfl rfl ⟨(Nat.le_of_ble_eq_true rfl), (Nat.le_of_ble_eq_true rfl)⟩) hK hE hA hP hD hS 0 (T := TX8) (N := 48) (ci := 8) rfl rfl [0, 13, 14] rfl (by decide) rfl rfl rfl rfl rfl rfl hl.1 (Nat.le_of_ble_eq_true rfl) dX8_openOperand_225 ⟨Nat.zero_le _, Nat.zero_le _⟩ (fun H locs hP hD hS => ?_)
    cases hM
    exact rt_v hx hb hr hlk hP hD hS rfl dX8_openOperand_228
  · replace hM := if_t c33 hM
    refine lv_bipush (v := 64) hx hb dX8_openOperand_218 (by decide) ?_
    refine lv_goto (tgt := 225) hx hb dX8_openOperand_220 (by decide) ?_
    obtain ⟨r35, hcr35, hM⟩ := ob_use hM
    refine cl_V (As := [.int 0, .int 64]) (rest := []) (wM0 ad o_X o_L o_N o_T o_U o_O o_E o_Q o_V r35 ++ wMC cI ad o_C ++ wMT cI ad o_T ++ wMV cI ad o_V ++ wMI cI ad r35) [] ⟨hx, hb, hml, hown, hts⟩ (c_Model_item l D cI sd ad o_C o_X o_L o_N o_T o_U o_O o_E o_Q o_V r31 0 64 r35 hcr35) (cwV2 hts q1512 mvX8_item rfl rfl ⟨(Nat.le_of_ble_eq_true rfl), (Nat.le_of_ble_eq_true rfl)⟩) hK hE hA hP hD hS 0 (T := TX8) (N := 48) (ci := 8) rfl rfl [0, 13, 14] rfl (by decide) rfl rfl rfl rfl rfl rfl hl.1 (Nat.le_of_ble_eq_true rfl) dX8_openOperand_225 ⟨Nat.zero_le _, Nat.zero_le _⟩ (fun H locs hP hD hS => ?_)
    cases hM
    exact rt_v hx hb hr hlk hP hD hS rfl dX8_openOperand_228

set_option maxHeartbeats 4000000 in
set_option maxRecDepth 100000 in
theorem c_Model_openRung (l : Launch) (D : va_G) (cI : ClassId) (sd : Nat → Nat) (ad : Nat → Nat) (o_X : S_MX) (o_L : S_ML) (o_N : S_MN) (o_U : S_MU) (o_O : S_MO) (o_E : S_ME) (o_Q : S_MQ) (o_C : S_MC) (o_T : S_MT) (o_V : S_MV) (o_I : S_MI) (a1 : Int32) (res : S_MV × S_MI) (hM : f_Model_openRung o_C o_T o_V o_I a1 = some res) : Ctr l D cI sd yX8_openRung (wsM yX8_openRung cX8_openRung 3 (Option.none : Option Jvm.ClassFile.FieldType)) { frames := 4, cells := 0, slots := 0, locals := 83 } [.ref (ad 100), .int a1] (wM0 ad o_X o_L o_N o_T o_U o_O o_E o_Q o_V o_I ++ wMC cI ad o_C ++ wMT cI ad o_T ++ wMV cI ad o_V ++ wMI cI ad o_I) (wM0 ad o_X o_L o_N o_T o_U o_O o_E o_Q res.1 res.2 ++ wMC cI ad o_C ++ wMT cI ad o_T ++ wMV cI ad res.1 ++ wMI cI ad res.2) none := by
  refine Ctr.of (cc := cX8_openRung) (maxL := 3) (own := RX8) (by decide +kernel) rfl rfl (Nat.le_of_ble_eq_true rfl) ?_
  intro p e s m below meth c A ls hx hb hr hml hown hts hlk hK hE hA hP hD hS hl
  have hl : lv_has ls 3 [(0, .ref (ad 100)), (1, .int a1)] := hl
  unfold f_Model_openRung at hM
  refine lv_aload_n hx hb dX8_openRung_0 rfl (lv_at hl 0 rfl) ?_
  refine va_get (D := D) (ci := 8) (v := .ref (ad 110)) (C := RX8) (T := TX8) (N := 48) hx hb hts layX8 hown hK hP 0 rfl rfl 19 (by decide) (hts _ (inA q997)) (fun _ h9 => h9) rfl dX8_openRung_1 ?_
  refine lv_iload_n hx hb dX8_openRung_4 rfl (lv_at hl 1 rfl) ?_
  obtain ⟨b1, hM⟩ := gd_use hM
  refine va_iald hx hb hK hP 7 0 rfl rfl b1 dX8_openRung_5 ?_
  refine lv_topi (fun x2 ex2 => ?_)
  replace hM := nm_use ex2 hM
  refine lv_istore_n (lv' := [(2, .int x2), (0, .ref (ad 100)), (1, .int a1)]) hx hb dX8_openRung_6 rfl hl (by decide) rfl (fun ls hl => ?_)
  refine lv_aload_n hx hb dX8_openRung_7 rfl (lv_at hl 1 rfl) ?_
  refine va_get (D := D) (ci := 8) (v := .ref (ad 108)) (C := RX8) (T := TX8) (N := 48) hx hb hts layX8 hown hK hP 0 rfl rfl 17 (by decide) (hts _ (inA q995)) (fun _ h9 => h9) rfl dX8_openRung_8 ?_
  refine lv_iload_n hx hb dX8_openRung_11 rfl (lv_at hl 2 rfl) ?_
  obtain ⟨b3, hM⟩ := gd_use hM
  refine va_iald hx hb hK hP 5 0 rfl rfl b3 dX8_openRung_12 ?_
  by_cases c4 : (o_T.2.2.1 a1.toNatClampNeg) = 22
  · replace hM := if_t c4 hM
    refine lv_tableIn (tgt := 56) hx hb dX8_openRung_13 (by rw [c4]; decide) (by rw [c4]; decide) (by rw [c4]; rfl) (by decide) ?_
    refine lv_aload_n hx hb dX8_openRung_56 rfl (lv_at hl 1 rfl) ?_
    refine lv_bipush (v := 38) hx hb dX8_openRung_57 (by decide) ?_
    refine lv_iconst (v := 2) hx hb dX8_openRung_59 (by decide) ?_
    refine lv_iload_n hx hb dX8_openRung_60 rfl (lv_at hl 2 rfl) ?_
    refine lv_bipush (v := 37) hx hb dX8_openRung_61 (by decide) ?_
    obtain ⟨r5, hcr5, hM⟩ := ob_use hM
    refine cl_V (As := [.int 38, .int 2, .int a1, .int 37]) (rest := []) (wM0 ad o_X o_L o_N o_T o_U o_O o_E o_Q o_V r5 ++ wMC cI ad o_C ++ wMT cI ad o_T ++ wMV cI ad o_V ++ wMI cI ad r5) [] ⟨hx, hb, hml, hown, hts⟩ (c_Model_itemAll l D cI sd ad o_C o_X o_L o_N o_U o_O o_E o_Q o_V o_T o_I 38 2 a1 37 r5 hcr5) (cwV2 hts q1559 mvX8_itemAll rfl rfl ⟨(Nat.le_of_ble_eq_true rfl), (Nat.le_of_ble_eq_true rfl)⟩) hK hE hA hP hD hS 0 (T := TX8) (N := 48) (ci := 8) rfl rfl [0, 5, 6, 7, 8, 9, 10, 11, 13, 14] rfl (by decide) rfl rfl rfl rfl rfl rfl hl.1 (Nat.le_of_ble_eq_true rfl) dX8_openRung_63 ⟨Nat.zero_le _, Nat.zero_le _⟩ (fun H locs hP hD hS => ?_)
    refine lv_goto (tgt := 206) hx hb dX8_openRung_66 (by decide) ?_
    cases hM
    exact rt_v hx hb hr hlk hP hD hS rfl dX8_openRung_206
  replace hM := if_f c4 hM
  by_cases c6 : (o_T.2.2.1 a1.toNatClampNeg) = 23
  · replace hM := if_t c6 hM
    refine lv_tableIn (tgt := 69) hx hb dX8_openRung_13 (by rw [c6]; decide) (by rw [c6]; decide) (by rw [c6]; rfl) (by decide) ?_
    refine lv_aload_n hx hb dX8_openRung_69 rfl (lv_at hl 1 rfl) ?_
    refine lv_bipush (v := 40) hx hb dX8_openRung_70 (by decide) ?_
    refine lv_iconst (v := 2) hx hb dX8_openRung_72 (by decide) ?_
    refine lv_iload_n hx hb dX8_openRung_73 rfl (lv_at hl 2 rfl) ?_
    refine lv_bipush (v := 39) hx hb dX8_openRung_74 (by decide) ?_
    obtain ⟨r7, hcr7, hM⟩ := ob_use hM
    refine cl_V (As := [.int 40, .int 2, .int a1, .int 39]) (rest := []) (wM0 ad o_X o_L o_N o_T o_U o_O o_E o_Q o_V r7 ++ wMC cI ad o_C ++ wMT cI ad o_T ++ wMV cI ad o_V ++ wMI cI ad r7) [] ⟨hx, hb, hml, hown, hts⟩ (c_Model_itemAll l D cI sd ad o_C o_X o_L o_N o_U o_O o_E o_Q o_V o_T o_I 40 2 a1 39 r7 hcr7) (cwV2 hts q1559 mvX8_itemAll rfl rfl ⟨(Nat.le_of_ble_eq_true rfl), (Nat.le_of_ble_eq_true rfl)⟩) hK hE hA hP hD hS 0 (T := TX8) (N := 48) (ci := 8) rfl rfl [0, 5, 6, 7, 8, 9, 10, 11, 13, 14] rfl (by decide) rfl rfl rfl rfl rfl rfl hl.1 (Nat.le_of_ble_eq_true rfl) dX8_openRung_76 ⟨Nat.zero_le _, Nat.zero_le _⟩ (fun H locs hP hD hS => ?_)
    refine lv_goto (tgt := 206) hx hb dX8_openRung_79 (by decide) ?_
    cases hM
    exact rt_v hx hb hr hlk hP hD hS rfl dX8_openRung_206
  replace hM := if_f c6 hM
  by_cases c8 : (o_T.2.2.1 a1.toNatClampNeg) = 24
  · replace hM := if_t c8 hM
    refine lv_tableIn (tgt := 82) hx hb dX8_openRung_13 (by rw [c8]; decide) (by rw [c8]; decide) (by rw [c8]; rfl) (by decide) ?_
    refine lv_aload_n hx hb dX8_openRung_82 rfl (lv_at hl 1 rfl) ?_
    refine lv_bipush (v := 60) hx hb dX8_openRung_83 (by decide) ?_
    refine lv_iconst (v := 2) hx hb dX8_openRung_85 (by decide) ?_
    refine lv_iload_n hx hb dX8_openRung_86 rfl (lv_at hl 2 rfl) ?_
    refine lv_iconst (v := (-1)) hx hb dX8_openRung_87 (by decide) ?_
    obtain ⟨r9, hcr9, hM⟩ := ob_use hM
    refine cl_V (As := [.int 60, .int 2, .int a1, .int (-1)]) (rest := []) (wM0 ad o_X o_L o_N o_T o_U o_O o_E o_Q o_V r9 ++ wMC cI ad o_C ++ wMT cI ad o_T ++ wMV cI ad o_V ++ wMI cI ad r9) [] ⟨hx, hb, hml, hown, hts⟩ (c_Model_itemAll l D cI sd ad o_C o_X o_L o_N o_U o_O o_E o_Q o_V o_T o_I 60 2 a1 (-1) r9 hcr9) (cwV2 hts q1559 mvX8_itemAll rfl rfl ⟨(Nat.le_of_ble_eq_true rfl), (Nat.le_of_ble_eq_true rfl)⟩) hK hE hA hP hD hS 0 (T := TX8) (N := 48) (ci := 8) rfl rfl [0, 5, 6, 7, 8, 9, 10, 11, 13, 14] rfl (by decide) rfl rfl rfl rfl rfl rfl hl.1 (Nat.le_of_ble_eq_true rfl) dX8_openRung_88 ⟨Nat.zero_le _, Nat.zero_le _⟩ (fun H locs hP hD hS => ?_)
    refine lv_goto (tgt := 206) hx hb dX8_openRung_91 (by decide) ?_
    cases hM
    exact rt_v hx hb hr hlk hP hD hS rfl dX8_openRung_206
  replace hM := if_f c8 hM
  by_cases c10 : (o_T.2.2.1 a1.toNatClampNeg) = 25
  · replace hM := if_t c10 hM
    refine lv_tableIn (tgt := 94) hx hb dX8_openRung_13 (by rw [c10]; decide) (by rw [c10]; decide) (by rw [c10]; rfl) (by decide) ?_
    refine lv_aload_n hx hb dX8_openRung_94 rfl (lv_at hl 1 rfl) ?_
    refine lv_iconst (v := (-1)) hx hb dX8_openRung_95 (by decide) ?_
    refine lv_iconst (v := 1) hx hb dX8_openRung_96 (by decide) ?_
    refine lv_iload_n hx hb dX8_openRung_97 rfl (lv_at hl 2 rfl) ?_
    refine lv_iload_n hx hb dX8_openRung_98 rfl (lv_at hl 0 rfl) ?_
    refine lv_if_ne (tgt := 106) hx hb dX8_openRung_99 (by decide) (fun c11 => ?_) (fun c11 => ?_)
    · replace hM := if_f c11 hM
      refine lv_iload_n hx hb dX8_openRung_106 rfl (lv_at hl 0 rfl) ?_
      refine lv_iconst (v := 1) hx hb dX8_openRung_107 (by decide) ?_
      refine lv_icmp_ne (tgt := 116) hx hb dX8_openRung_108 (by decide) (fun c12 => ?_) (fun c12 => ?_)
      · replace hM := if_f c12 hM
        refine lv_iload_n hx hb dX8_openRung_116 rfl (lv_at hl 0 rfl) ?_
        refine lv_iconst (v := 2) hx hb dX8_openRung_117 (by decide) ?_
        refine lv_icmp_ne (tgt := 126) hx hb dX8_openRung_118 (by decide) (fun c13 => ?_) (fun c13 => ?_)
        · replace hM := if_f c13 hM
          refine lv_bipush (v := 68) hx hb dX8_openRung_126 (by decide) ?_
          obtain ⟨r14, hcr14, hM⟩ := ob_use hM
          refine cl_V (As := [.int (-1), .int 1, .int a1, .int 68]) (rest := []) (wM0 ad o_X o_L o_N o_T o_U o_O o_E o_Q o_V r14 ++ wMC cI ad o_C ++ wMT cI ad o_T ++ wMV cI ad o_V ++ wMI cI ad r14) [] ⟨hx, hb, hml, hown, hts⟩ (c_Model_itemAll l D cI sd ad o_C o_X o_L o_N o_U o_O o_E o_Q o_V o_T o_I (-1) 1 a1 68 r14 hcr14) (cwV2 hts q1559 mvX8_itemAll rfl rfl ⟨(Nat.le_of_ble_eq_true rfl), (Nat.le_of_ble_eq_true rfl)⟩) hK hE hA hP hD hS 0 (T := TX8) (N := 48) (ci := 8) rfl rfl [0, 5, 6, 7, 8, 9, 10, 11, 13, 14] rfl (by decide) rfl rfl rfl rfl rfl rfl hl.1 (Nat.le_of_ble_eq_true rfl) dX8_openRung_128 ⟨Nat.zero_le _, Nat.zero_le _⟩ (fun H locs hP hD hS => ?_)
          refine lv_goto (tgt := 206) hx hb dX8_openRung_131 (by decide) ?_
          cases hM
          exact rt_v hx hb hr hlk hP hD hS rfl dX8_openRung_206
        · replace hM := if_t c13 hM
          refine lv_bipush (v := 69) hx hb dX8_openRung_121 (by decide) ?_
          refine lv_goto (tgt := 128) hx hb dX8_openRung_123 (by decide) ?_
          obtain ⟨r15, hcr15, hM⟩ := ob_use hM
          refine cl_V (As := [.int (-1), .int 1, .int a1, .int 69]) (rest := []) (wM0 ad o_X o_L o_N o_T o_U o_O o_E o_Q o_V r15 ++ wMC cI ad o_C ++ wMT cI ad o_T ++ wMV cI ad o_V ++ wMI cI ad r15) [] ⟨hx, hb, hml, hown, hts⟩ (c_Model_itemAll l D cI sd ad o_C o_X o_L o_N o_U o_O o_E o_Q o_V o_T o_I (-1) 1 a1 69 r15 hcr15) (cwV2 hts q1559 mvX8_itemAll rfl rfl ⟨(Nat.le_of_ble_eq_true rfl), (Nat.le_of_ble_eq_true rfl)⟩) hK hE hA hP hD hS 0 (T := TX8) (N := 48) (ci := 8) rfl rfl [0, 5, 6, 7, 8, 9, 10, 11, 13, 14] rfl (by decide) rfl rfl rfl rfl rfl rfl hl.1 (Nat.le_of_ble_eq_true rfl) dX8_openRung_128 ⟨Nat.zero_le _, Nat.zero_le _⟩ (fun H locs hP hD hS => ?_)
          refine lv_goto (tgt := 206) hx hb dX8_openRung_131 (by decide) ?_
          cases hM
          exact rt_v hx hb hr hlk hP hD hS rfl dX8_openRung_206
      · replace hM := if_t c12 hM
        refine lv_bipush (v := 66) hx hb dX8_openRung_111 (by decide) ?_
        refine lv_goto (tgt := 128) hx hb dX8_openRung_113 (by decide) ?_
        obtain ⟨r16, hcr16, hM⟩ := ob_use hM
        refine cl_V (As := [.int (-1), .int 1, .int a1, .int 66]) (rest := []) (wM0 ad o_X o_L o_N o_T o_U o_O o_E o_Q o_V r16 ++ wMC cI ad o_C ++ wMT cI ad o_T ++ wMV cI ad o_V ++ wMI cI ad r16) [] ⟨hx, hb, hml, hown, hts⟩ (c_Model_itemAll l D cI sd ad o_C o_X o_L o_N o_U o_O o_E o_Q o_V o_T o_I (-1) 1 a1 66 r16 hcr16) (cwV2 hts q1559 mvX8_itemAll rfl rfl ⟨(Nat.le_of_ble_eq_true rfl), (Nat.le_of_ble_eq_true rfl)⟩) hK hE hA hP hD hS 0 (T := TX8) (N := 48) (ci := 8) rfl rfl [0, 5, 6, 7, 8, 9, 10, 11, 13, 14] rfl (by decide) rfl rfl rfl rfl rfl rfl hl.1 (Nat.le_of_ble_eq_true rfl) dX8_openRung_128 ⟨Nat.zero_le _, Nat.zero_le _⟩ (fun H locs hP hD hS => ?_)
        refine lv_goto (tgt := 206) hx hb dX8_openRung_131 (by decide) ?_
        cases hM
        exact rt_v hx hb hr hlk hP hD hS rfl dX8_openRung_206
    · replace hM := if_t c11 hM
      refine lv_iconst (v := (-1)) hx hb dX8_openRung_102 (by decide) ?_
      refine lv_goto (tgt := 128) hx hb dX8_openRung_103 (by decide) ?_
      obtain ⟨r17, hcr17, hM⟩ := ob_use hM
      refine cl_V (As := [.int (-1), .int 1, .int a1, .int (-1)]) (rest := []) (wM0 ad o_X o_L o_N o_T o_U o_O o_E o_Q o_V r17 ++ wMC cI ad o_C ++ wMT cI ad o_T ++ wMV cI ad o_V ++ wMI cI ad r17) [] ⟨hx, hb, hml, hown, hts⟩ (c_Model_itemAll l D cI sd ad o_C o_X o_L o_N o_U o_O o_E o_Q o_V o_T o_I (-1) 1 a1 (-1) r17 hcr17) (cwV2 hts q1559 mvX8_itemAll rfl rfl ⟨(Nat.le_of_ble_eq_true rfl), (Nat.le_of_ble_eq_true rfl)⟩) hK hE hA hP hD hS 0 (T := TX8) (N := 48) (ci := 8) rfl rfl [0, 5, 6, 7, 8, 9, 10, 11, 13, 14] rfl (by decide) rfl rfl rfl rfl rfl rfl hl.1 (Nat.le_of_ble_eq_true rfl) dX8_openRung_128 ⟨Nat.zero_le _, Nat.zero_le _⟩ (fun H locs hP hD hS => ?_)
      refine lv_goto (tgt := 206) hx hb dX8_openRung_131 (by decide) ?_
      cases hM
      exact rt_v hx hb hr hlk hP hD hS rfl dX8_openRung_206
  replace hM := if_f c10 hM
  by_cases c18 : (o_T.2.2.1 a1.toNatClampNeg) = 26
  · replace hM := if_t c18 hM
    refine lv_tableIn (tgt := 134) hx hb dX8_openRung_13 (by rw [c18]; decide) (by rw [c18]; decide) (by rw [c18]; rfl) (by decide) ?_
    refine lv_aload_n hx hb dX8_openRung_134 rfl (lv_at hl 1 rfl) ?_
    refine lv_bipush (v := 64) hx hb dX8_openRung_135 (by decide) ?_
    obtain ⟨r19, hcr19, hM⟩ := ob_use hM
    refine cl_V (As := [.int 64]) (rest := []) (wM0 ad o_X o_L o_N o_T o_U o_O o_E o_Q r19 o_I ++ wMC cI ad o_C ++ wMT cI ad o_T ++ wMV cI ad r19 ++ wMI cI ad o_I) [] ⟨hx, hb, hml, hown, hts⟩ (c_Model_putToken l D cI sd ad o_X o_L o_N o_T o_U o_O o_E o_Q o_I o_C o_V 64 r19 hcr19) (cwV2 hts q1520 mvX8_putToken rfl rfl ⟨(Nat.le_of_ble_eq_true rfl), (Nat.le_of_ble_eq_true rfl)⟩) hK hE hA hP hD hS 0 (T := TX8) (N := 48) (ci := 8) rfl rfl [0, 1, 2, 3, 4, 12] rfl (by decide) rfl rfl rfl rfl rfl rfl hl.1 (Nat.le_of_ble_eq_true rfl) dX8_openRung_137 ⟨Nat.zero_le _, Nat.zero_le _⟩ (fun H locs hP hD hS => ?_)
    refine lv_goto (tgt := 206) hx hb dX8_openRung_140 (by decide) ?_
    cases hM
    exact rt_v hx hb hr hlk hP hD hS rfl dX8_openRung_206
  replace hM := if_f c18 hM
  by_cases c20 : (o_T.2.2.1 a1.toNatClampNeg) = 27
  · replace hM := if_t c20 hM
    refine lv_tableIn (tgt := 143) hx hb dX8_openRung_13 (by rw [c20]; decide) (by rw [c20]; decide) (by rw [c20]; rfl) (by decide) ?_
    refine lv_aload_n hx hb dX8_openRung_143 rfl (lv_at hl 1 rfl) ?_
    refine lv_bipush (v := 65) hx hb dX8_openRung_144 (by decide) ?_
    obtain ⟨r21, hcr21, hM⟩ := ob_use hM
    refine cl_V (As := [.int 65]) (rest := []) (wM0 ad o_X o_L o_N o_T o_U o_O o_E o_Q r21 o_I ++ wMC cI ad o_C ++ wMT cI ad o_T ++ wMV cI ad r21 ++ wMI cI ad o_I) [] ⟨hx, hb, hml, hown, hts⟩ (c_Model_putToken l D cI sd ad o_X o_L o_N o_T o_U o_O o_E o_Q o_I o_C o_V 65 r21 hcr21) (cwV2 hts q1520 mvX8_putToken rfl rfl ⟨(Nat.le_of_ble_eq_true rfl), (Nat.le_of_ble_eq_true rfl)⟩) hK hE hA hP hD hS 0 (T := TX8) (N := 48) (ci := 8) rfl rfl [0, 1, 2, 3, 4, 12] rfl (by decide) rfl rfl rfl rfl rfl rfl hl.1 (Nat.le_of_ble_eq_true rfl) dX8_openRung_146 ⟨Nat.zero_le _, Nat.zero_le _⟩ (fun H locs hP hD hS => ?_)
    refine lv_goto (tgt := 206) hx hb dX8_openRung_149 (by decide) ?_
    cases hM
    exact rt_v hx hb hr hlk hP hD hS rfl dX8_openRung_206
  replace hM := if_f c20 hM
  by_cases c22 : (o_T.2.2.1 a1.toNatClampNeg) = 28
  · replace hM := if_t c22 hM
    refine lv_tableIn (tgt := 152) hx hb dX8_openRung_13 (by rw [c22]; decide) (by rw [c22]; decide) (by rw [c22]; rfl) (by decide) ?_
    refine lv_aload_n hx hb dX8_openRung_152 rfl (lv_at hl 1 rfl) ?_
    refine lv_bipush (v := 56) hx hb dX8_openRung_153 (by decide) ?_
    refine lv_iconst (v := 1) hx hb dX8_openRung_155 (by decide) ?_
    refine lv_iload_n hx hb dX8_openRung_156 rfl (lv_at hl 2 rfl) ?_
    refine lv_iload_n hx hb dX8_openRung_157 rfl (lv_at hl 0 rfl) ?_
    refine lv_if_ne (tgt := 165) hx hb dX8_openRung_158 (by decide) (fun c23 => ?_) (fun c23 => ?_)
    · replace hM := if_f c23 hM
      refine lv_iload_n hx hb dX8_openRung_165 rfl (lv_at hl 0 rfl) ?_
      refine lv_iconst (v := 1) hx hb dX8_openRung_166 (by decide) ?_
      refine lv_icmp_ne (tgt := 175) hx hb dX8_openRung_167 (by decide) (fun c24 => ?_) (fun c24 => ?_)
      · replace hM := if_f c24 hM
        refine lv_iload_n hx hb dX8_openRung_175 rfl (lv_at hl 0 rfl) ?_
        refine lv_iconst (v := 2) hx hb dX8_openRung_176 (by decide) ?_
        refine lv_icmp_ne (tgt := 185) hx hb dX8_openRung_177 (by decide) (fun c25 => ?_) (fun c25 => ?_)
        · replace hM := if_f c25 hM
          refine lv_bipush (v := 64) hx hb dX8_openRung_185 (by decide) ?_
          obtain ⟨r26, hcr26, hM⟩ := ob_use hM
          refine cl_V (As := [.int 56, .int 1, .int a1, .int 64]) (rest := []) (wM0 ad o_X o_L o_N o_T o_U o_O o_E o_Q o_V r26 ++ wMC cI ad o_C ++ wMT cI ad o_T ++ wMV cI ad o_V ++ wMI cI ad r26) [] ⟨hx, hb, hml, hown, hts⟩ (c_Model_itemAll l D cI sd ad o_C o_X o_L o_N o_U o_O o_E o_Q o_V o_T o_I 56 1 a1 64 r26 hcr26) (cwV2 hts q1559 mvX8_itemAll rfl rfl ⟨(Nat.le_of_ble_eq_true rfl), (Nat.le_of_ble_eq_true rfl)⟩) hK hE hA hP hD hS 0 (T := TX8) (N := 48) (ci := 8) rfl rfl [0, 5, 6, 7, 8, 9, 10, 11, 13, 14] rfl (by decide) rfl rfl rfl rfl rfl rfl hl.1 (Nat.le_of_ble_eq_true rfl) dX8_openRung_187 ⟨Nat.zero_le _, Nat.zero_le _⟩ (fun H locs hP hD hS => ?_)
          refine lv_aload_n hx hb dX8_openRung_190 rfl (lv_at hl 1 rfl) ?_
          refine lv_iconst (v := 0) hx hb dX8_openRung_191 (by decide) ?_
          refine lv_bipush (v := 55) hx hb dX8_openRung_192 (by decide) ?_
          obtain ⟨r27, hcr27, hM⟩ := ob_use hM
          refine cl_V (As := [.int 0, .int 55]) (rest := []) (wM0 ad o_X o_L o_N o_T o_U o_O o_E o_Q o_V r27 ++ wMC cI ad o_C ++ wMT cI ad o_T ++ wMV cI ad o_V ++ wMI cI ad r27) [] ⟨hx, hb, hml, hown, hts⟩ (c_Model_item l D cI sd ad o_C o_X o_L o_N o_T o_U o_O o_E o_Q o_V r26 0 55 r27 hcr27) (cwV2 hts q1512 mvX8_item rfl rfl ⟨(Nat.le_of_ble_eq_true rfl), (Nat.le_of_ble_eq_true rfl)⟩) hK hE hA hP hD hS 0 (T := TX8) (N := 48) (ci := 8) rfl rfl [0, 13, 14] rfl (by decide) rfl rfl rfl rfl rfl rfl hl.1 (Nat.le_of_ble_eq_true rfl) dX8_openRung_194 ⟨Nat.zero_le _, Nat.zero_le _⟩ (fun H locs hP hD hS => ?_)
          refine lv_goto (tgt := 206) hx hb dX8_openRung_197 (by decide) ?_
          cases hM
          exact rt_v hx hb hr hlk hP hD hS rfl dX8_openRung_206
        · replace hM := if_t c25 hM
          refine lv_bipush (v := 63) hx hb dX8_openRung_180 (by decide) ?_
          refine lv_goto (tgt := 187) hx hb dX8_openRung_182 (by decide) ?_
          obtain ⟨r28, hcr28, hM⟩ := ob_use hM
          refine cl_V (As := [.int 56, .int 1, .int a1, .int 63]) (rest := []) (wM0 ad o_X o_L o_N o_T o_U o_O o_E o_Q o_V r28 ++ wMC cI ad o_C ++ wMT cI ad o_T ++ wMV cI ad o_V ++ wMI cI ad r28) [] ⟨hx, hb, hml, hown, hts⟩ (c_Model_itemAll l D cI sd ad o_C o_X o_L o_N o_U o_O o_E o_Q o_V o_T o_I 56 1 a1 63 r28 hcr28) (cwV2 hts q1559 mvX8_itemAll rfl rfl ⟨(Nat.le_of_ble_eq_true rfl), (Nat.le_of_ble_eq_true rfl)⟩) hK hE hA hP hD hS 0 (T := TX8) (N := 48) (ci := 8) rfl rfl [0, 5, 6, 7, 8, 9, 10, 11, 13, 14] rfl (by decide) rfl rfl rfl rfl rfl rfl hl.1 (Nat.le_of_ble_eq_true rfl) dX8_openRung_187 ⟨Nat.zero_le _, Nat.zero_le _⟩ (fun H locs hP hD hS => ?_)
          refine lv_aload_n hx hb dX8_openRung_190 rfl (lv_at hl 1 rfl) ?_
          refine lv_iconst (v := 0) hx hb dX8_openRung_191 (by decide) ?_
          refine lv_bipush (v := 55) hx hb dX8_openRung_192 (by decide) ?_
          obtain ⟨r29, hcr29, hM⟩ := ob_use hM
          refine cl_V (As := [.int 0, .int 55]) (rest := []) (wM0 ad o_X o_L o_N o_T o_U o_O o_E o_Q o_V r29 ++ wMC cI ad o_C ++ wMT cI ad o_T ++ wMV cI ad o_V ++ wMI cI ad r29) [] ⟨hx, hb, hml, hown, hts⟩ (c_Model_item l D cI sd ad o_C o_X o_L o_N o_T o_U o_O o_E o_Q o_V r28 0 55 r29 hcr29) (cwV2 hts q1512 mvX8_item rfl rfl ⟨(Nat.le_of_ble_eq_true rfl), (Nat.le_of_ble_eq_true rfl)⟩) hK hE hA hP hD hS 0 (T := TX8) (N := 48) (ci := 8) rfl rfl [0, 13, 14] rfl (by decide) rfl rfl rfl rfl rfl rfl hl.1 (Nat.le_of_ble_eq_true rfl) dX8_openRung_194 ⟨Nat.zero_le _, Nat.zero_le _⟩ (fun H locs hP hD hS => ?_)
          refine lv_goto (tgt := 206) hx hb dX8_openRung_197 (by decide) ?_
          cases hM
          exact rt_v hx hb hr hlk hP hD hS rfl dX8_openRung_206
      · replace hM := if_t c24 hM
        refine lv_bipush (v := 66) hx hb dX8_openRung_170 (by decide) ?_
        refine lv_goto (tgt := 187) hx hb dX8_openRung_172 (by decide) ?_
        obtain ⟨r30, hcr30, hM⟩ := ob_use hM
        refine cl_V (As := [.int 56, .int 1, .int a1, .int 66]) (rest := []) (wM0 ad o_X o_L o_N o_T o_U o_O o_E o_Q o_V r30 ++ wMC cI ad o_C ++ wMT cI ad o_T ++ wMV cI ad o_V ++ wMI cI ad r30) [] ⟨hx, hb, hml, hown, hts⟩ (c_Model_itemAll l D cI sd ad o_C o_X o_L o_N o_U o_O o_E o_Q o_V o_T o_I 56 1 a1 66 r30 hcr30) (cwV2 hts q1559 mvX8_itemAll rfl rfl ⟨(Nat.le_of_ble_eq_true rfl), (Nat.le_of_ble_eq_true rfl)⟩) hK hE hA hP hD hS 0 (T := TX8) (N := 48) (ci := 8) rfl rfl [0, 5, 6, 7, 8, 9, 10, 11, 13, 14] rfl (by decide) rfl rfl rfl rfl rfl rfl hl.1 (Nat.le_of_ble_eq_true rfl) dX8_openRung_187 ⟨Nat.zero_le _, Nat.zero_le _⟩ (fun H locs hP hD hS => ?_)
        refine lv_aload_n hx hb dX8_openRung_190 rfl (lv_at hl 1 rfl) ?_
        refine lv_iconst (v := 0) hx hb dX8_openRung_191 (by decide) ?_
        refine lv_bipush (v := 55) hx hb dX8_openRung_192 (by decide) ?_
        obtain ⟨r31, hcr31, hM⟩ := ob_use hM
        refine cl_V (As := [.int 0, .int 55]) (rest := []) (wM0 ad o_X o_L o_N o_T o_U o_O o_E o_Q o_V r31 ++ wMC cI ad o_C ++ wMT cI ad o_T ++ wMV cI ad o_V ++ wMI cI ad r31) [] ⟨hx, hb, hml, hown, hts⟩ (c_Model_item l D cI sd ad o_C o_X o_L o_N o_T o_U o_O o_E o_Q o_V r30 0 55 r31 hcr31) (cwV2 hts q1512 mvX8_item rfl rfl ⟨(Nat.le_of_ble_eq_true rfl), (Nat.le_of_ble_eq_true rfl)⟩) hK hE hA hP hD hS 0 (T := TX8) (N := 48) (ci := 8) rfl rfl [0, 13, 14] rfl (by decide) rfl rfl rfl rfl rfl rfl hl.1 (Nat.le_of_ble_eq_true rfl) dX8_openRung_194 ⟨Nat.zero_le _, Nat.zero_le _⟩ (fun H locs hP hD hS => ?_)
        refine lv_goto (tgt := 206) hx hb dX8_openRung_197 (by decide) ?_
        cases hM
        exact rt_v hx hb hr hlk hP hD hS rfl dX8_openRung_206
    · replace hM := if_t c23 hM
      refine lv_iconst (v := (-1)) hx hb dX8_openRung_161 (by decide) ?_
      refine lv_goto (tgt := 187) hx hb dX8_openRung_162 (by decide) ?_
      obtain ⟨r32, hcr32, hM⟩ := ob_use hM
      refine cl_V (As := [.int 56, .int 1, .int a1, .int (-1)]) (rest := []) (wM0 ad o_X o_L o_N o_T o_U o_O o_E o_Q o_V r32 ++ wMC cI ad o_C ++ wMT cI ad o_T ++ wMV cI ad o_V ++ wMI cI ad r32) [] ⟨hx, hb, hml, hown, hts⟩ (c_Model_itemAll l D cI sd ad o_C o_X o_L o_N o_U o_O o_E o_Q o_V o_T o_I 56 1 a1 (-1) r32 hcr32) (cwV2 hts q1559 mvX8_itemAll rfl rfl ⟨(Nat.le_of_ble_eq_true rfl), (Nat.le_of_ble_eq_true rfl)⟩) hK hE hA hP hD hS 0 (T := TX8) (N := 48) (ci := 8) rfl rfl [0, 5, 6, 7, 8, 9, 10, 11, 13, 14] rfl (by decide) rfl rfl rfl rfl rfl rfl hl.1 (Nat.le_of_ble_eq_true rfl) dX8_openRung_187 ⟨Nat.zero_le _, Nat.zero_le _⟩ (fun H locs hP hD hS => ?_)
      refine lv_aload_n hx hb dX8_openRung_190 rfl (lv_at hl 1 rfl) ?_
      refine lv_iconst (v := 0) hx hb dX8_openRung_191 (by decide) ?_
      refine lv_bipush (v := 55) hx hb dX8_openRung_192 (by decide) ?_
      obtain ⟨r33, hcr33, hM⟩ := ob_use hM
      refine cl_V (As := [.int 0, .int 55]) (rest := []) (wM0 ad o_X o_L o_N o_T o_U o_O o_E o_Q o_V r33 ++ wMC cI ad o_C ++ wMT cI ad o_T ++ wMV cI ad o_V ++ wMI cI ad r33) [] ⟨hx, hb, hml, hown, hts⟩ (c_Model_item l D cI sd ad o_C o_X o_L o_N o_T o_U o_O o_E o_Q o_V r32 0 55 r33 hcr33) (cwV2 hts q1512 mvX8_item rfl rfl ⟨(Nat.le_of_ble_eq_true rfl), (Nat.le_of_ble_eq_true rfl)⟩) hK hE hA hP hD hS 0 (T := TX8) (N := 48) (ci := 8) rfl rfl [0, 13, 14] rfl (by decide) rfl rfl rfl rfl rfl rfl hl.1 (Nat.le_of_ble_eq_true rfl) dX8_openRung_194 ⟨Nat.zero_le _, Nat.zero_le _⟩ (fun H locs hP hD hS => ?_)
      refine lv_goto (tgt := 206) hx hb dX8_openRung_197 (by decide) ?_
      cases hM
      exact rt_v hx hb hr hlk hP hD hS rfl dX8_openRung_206
  replace hM := if_f c22 hM
  refine lv_tableOut (tgt := 200) hx hb dX8_openRung_13 (by have := lv_neT c4 (show (22 : Int32).toInt = 22 by decide); have := lv_neT c6 (show (23 : Int32).toInt = 23 by decide); have := lv_neT c8 (show (24 : Int32).toInt = 24 by decide); have := lv_neT c10 (show (25 : Int32).toInt = 25 by decide); have := lv_neT c18 (show (26 : Int32).toInt = 26 by decide); have := lv_neT c20 (show (27 : Int32).toInt = 27 by decide); have := lv_neT c22 (show (28 : Int32).toInt = 28 by decide); omega) (by decide) ?_
  refine lv_aload_n hx hb dX8_openRung_200 rfl (lv_at hl 1 rfl) ?_
  refine lv_bipush (v := 71) hx hb dX8_openRung_201 (by decide) ?_
  obtain ⟨r34, hcr34, hM⟩ := ob_use hM
  refine cl_V (As := [.int 71]) (rest := []) (wM0 ad o_X o_L o_N o_T o_U o_O o_E o_Q r34 o_I ++ wMC cI ad o_C ++ wMT cI ad o_T ++ wMV cI ad r34 ++ wMI cI ad o_I) [] ⟨hx, hb, hml, hown, hts⟩ (c_Model_putToken l D cI sd ad o_X o_L o_N o_T o_U o_O o_E o_Q o_I o_C o_V 71 r34 hcr34) (cwV2 hts q1520 mvX8_putToken rfl rfl ⟨(Nat.le_of_ble_eq_true rfl), (Nat.le_of_ble_eq_true rfl)⟩) hK hE hA hP hD hS 0 (T := TX8) (N := 48) (ci := 8) rfl rfl [0, 1, 2, 3, 4, 12] rfl (by decide) rfl rfl rfl rfl rfl rfl hl.1 (Nat.le_of_ble_eq_true rfl) dX8_openRung_203 ⟨Nat.zero_le _, Nat.zero_le _⟩ (fun H locs hP hD hS => ?_)
  cases hM
  exact rt_v hx hb hr hlk hP hD hS rfl dX8_openRung_206

set_option maxHeartbeats 4000000 in
set_option maxRecDepth 100000 in
theorem c_Model_openBlock (l : Launch) (D : va_G) (cI : ClassId) (sd : Nat → Nat) (ad : Nat → Nat) (o_X : S_MX) (o_L : S_ML) (o_U : S_MU) (o_O : S_MO) (o_E : S_ME) (o_Q : S_MQ) (o_C : S_MC) (o_N : S_MN) (o_T : S_MT) (o_V : S_MV) (o_I : S_MI) (a1 : Int32) (res : S_MV × S_MI) (hM : f_Model_openBlock o_C o_N o_T o_V o_I a1 = some res) : Ctr l D cI sd yX8_openBlock (wsM yX8_openBlock cX8_openBlock 2 (Option.none : Option Jvm.ClassFile.FieldType)) { frames := 4, cells := 0, slots := 0, locals := 83 } [.ref (ad 100), .int a1] (wM0 ad o_X o_L o_N o_T o_U o_O o_E o_Q o_V o_I ++ wMC cI ad o_C ++ wMN cI ad o_N ++ wMT cI ad o_T ++ wMV cI ad o_V ++ wMI cI ad o_I) (wM0 ad o_X o_L o_N o_T o_U o_O o_E o_Q res.1 res.2 ++ wMC cI ad o_C ++ wMN cI ad o_N ++ wMT cI ad o_T ++ wMV cI ad res.1 ++ wMI cI ad res.2) none := by
  refine Ctr.of (cc := cX8_openBlock) (maxL := 2) (own := RX8) (by decide +kernel) rfl rfl (Nat.le_of_ble_eq_true rfl) ?_
  intro p e s m below meth c A ls hx hb hr hml hown hts hlk hK hE hA hP hD hS hl
  have hl : lv_has ls 2 [(0, .ref (ad 100)), (1, .int a1)] := hl
  unfold f_Model_openBlock at hM
  refine lv_aload_n hx hb dX8_openBlock_0 rfl (lv_at hl 0 rfl) ?_
  refine va_get (D := D) (ci := 8) (v := .ref (ad 108)) (C := RX8) (T := TX8) (N := 48) hx hb hts layX8 hown hK hP 0 rfl rfl 17 (by decide) (hts _ (inA q995)) (fun _ h9 => h9) rfl dX8_openBlock_1 ?_
  refine lv_iload_n hx hb dX8_openBlock_4 rfl (lv_at hl 1 rfl) ?_
  obtain ⟨b1, hM⟩ := gd_use hM
  refine va_iald hx hb hK hP 7 0 rfl rfl b1 dX8_openBlock_5 ?_
  by_cases c2 : (o_T.2.2.1 a1.toNatClampNeg) = 1
  · replace hM := if_t c2 hM
    refine lv_tableIn (tgt := 60) hx hb dX8_openBlock_6 (by rw [c2]; decide) (by rw [c2]; decide) (by rw [c2]; rfl) (by decide) ?_
    refine lv_aload_n hx hb dX8_openBlock_60 rfl (lv_at hl 0 rfl) ?_
    refine lv_iload_n hx hb dX8_openBlock_61 rfl (lv_at hl 1 rfl) ?_
    refine lv_iconst (v := 0) hx hb dX8_openBlock_62 (by decide) ?_
    refine lv_iconst (v := 1) hx hb dX8_openBlock_63 (by decide) ?_
    obtain ⟨r3, hcr3, hM⟩ := ob_use hM
    refine cl_V (As := [.int a1, .int 0, .int 1]) (rest := []) (wM0 ad o_X o_L o_N o_T o_U o_O o_E o_Q o_V r3 ++ wMC cI ad o_C ++ wMN cI ad o_N ++ wMT cI ad o_T ++ wMV cI ad o_V ++ wMI cI ad r3) [] ⟨hx, hb, hml, hown, hts⟩ (c_Model_itemBlock l D cI sd ad o_C o_X o_L o_N o_U o_O o_E o_Q o_V o_T o_I a1 0 1 r3 hcr3) (cwV2 hts q1551 mvX8_itemBlock rfl rfl ⟨(Nat.le_of_ble_eq_true rfl), (Nat.le_of_ble_eq_true rfl)⟩) hK hE hA hP hD hS 0 (T := TX8) (N := 48) (ci := 8) rfl rfl [0, 7, 8, 9, 10, 11, 12, 13, 15, 16] rfl (by decide) rfl rfl rfl rfl rfl rfl hl.1 (Nat.le_of_ble_eq_true rfl) dX8_openBlock_64 ⟨Nat.zero_le _, Nat.zero_le _⟩ (fun H locs hP hD hS => ?_)
    refine lv_goto (tgt := 199) hx hb dX8_openBlock_67 (by decide) ?_
    cases hM
    exact rt_v hx hb hr hlk hP hD hS rfl dX8_openBlock_199
  replace hM := if_f c2 hM
  by_cases c4 : (o_T.2.2.1 a1.toNatClampNeg) = 2
  · replace hM := if_t c4 hM
    refine lv_tableIn (tgt := 70) hx hb dX8_openBlock_6 (by rw [c4]; decide) (by rw [c4]; decide) (by rw [c4]; rfl) (by decide) ?_
    refine lv_aload_n hx hb dX8_openBlock_70 rfl (lv_at hl 0 rfl) ?_
    refine lv_iload_n hx hb dX8_openBlock_71 rfl (lv_at hl 1 rfl) ?_
    refine lv_iconst (v := 2) hx hb dX8_openBlock_72 (by decide) ?_
    refine lv_iconst (v := 3) hx hb dX8_openBlock_73 (by decide) ?_
    obtain ⟨r5, hcr5, hM⟩ := ob_use hM
    refine cl_V (As := [.int a1, .int 2, .int 3]) (rest := []) (wM0 ad o_X o_L o_N o_T o_U o_O o_E o_Q o_V r5 ++ wMC cI ad o_C ++ wMN cI ad o_N ++ wMT cI ad o_T ++ wMV cI ad o_V ++ wMI cI ad r5) [] ⟨hx, hb, hml, hown, hts⟩ (c_Model_itemBlock l D cI sd ad o_C o_X o_L o_N o_U o_O o_E o_Q o_V o_T o_I a1 2 3 r5 hcr5) (cwV2 hts q1551 mvX8_itemBlock rfl rfl ⟨(Nat.le_of_ble_eq_true rfl), (Nat.le_of_ble_eq_true rfl)⟩) hK hE hA hP hD hS 0 (T := TX8) (N := 48) (ci := 8) rfl rfl [0, 7, 8, 9, 10, 11, 12, 13, 15, 16] rfl (by decide) rfl rfl rfl rfl rfl rfl hl.1 (Nat.le_of_ble_eq_true rfl) dX8_openBlock_74 ⟨Nat.zero_le _, Nat.zero_le _⟩ (fun H locs hP hD hS => ?_)
    refine lv_goto (tgt := 199) hx hb dX8_openBlock_77 (by decide) ?_
    cases hM
    exact rt_v hx hb hr hlk hP hD hS rfl dX8_openBlock_199
  replace hM := if_f c4 hM
  by_cases c6 : (o_T.2.2.1 a1.toNatClampNeg) = 3
  · replace hM := if_t c6 hM
    refine lv_tableIn (tgt := 80) hx hb dX8_openBlock_6 (by rw [c6]; decide) (by rw [c6]; decide) (by rw [c6]; rfl) (by decide) ?_
    refine lv_aload_n hx hb dX8_openBlock_80 rfl (lv_at hl 0 rfl) ?_
    refine lv_iload_n hx hb dX8_openBlock_81 rfl (lv_at hl 1 rfl) ?_
    refine lv_iconst (v := 4) hx hb dX8_openBlock_82 (by decide) ?_
    refine lv_iconst (v := 5) hx hb dX8_openBlock_83 (by decide) ?_
    obtain ⟨r7, hcr7, hM⟩ := ob_use hM
    refine cl_V (As := [.int a1, .int 4, .int 5]) (rest := []) (wM0 ad o_X o_L o_N o_T o_U o_O o_E o_Q o_V r7 ++ wMC cI ad o_C ++ wMN cI ad o_N ++ wMT cI ad o_T ++ wMV cI ad o_V ++ wMI cI ad r7) [] ⟨hx, hb, hml, hown, hts⟩ (c_Model_itemBlock l D cI sd ad o_C o_X o_L o_N o_U o_O o_E o_Q o_V o_T o_I a1 4 5 r7 hcr7) (cwV2 hts q1551 mvX8_itemBlock rfl rfl ⟨(Nat.le_of_ble_eq_true rfl), (Nat.le_of_ble_eq_true rfl)⟩) hK hE hA hP hD hS 0 (T := TX8) (N := 48) (ci := 8) rfl rfl [0, 7, 8, 9, 10, 11, 12, 13, 15, 16] rfl (by decide) rfl rfl rfl rfl rfl rfl hl.1 (Nat.le_of_ble_eq_true rfl) dX8_openBlock_84 ⟨Nat.zero_le _, Nat.zero_le _⟩ (fun H locs hP hD hS => ?_)
    refine lv_goto (tgt := 199) hx hb dX8_openBlock_87 (by decide) ?_
    cases hM
    exact rt_v hx hb hr hlk hP hD hS rfl dX8_openBlock_199
  replace hM := if_f c6 hM
  by_cases c8 : (o_T.2.2.1 a1.toNatClampNeg) = 4
  · replace hM := if_t c8 hM
    refine lv_tableIn (tgt := 90) hx hb dX8_openBlock_6 (by rw [c8]; decide) (by rw [c8]; decide) (by rw [c8]; rfl) (by decide) ?_
    refine lv_aload_n hx hb dX8_openBlock_90 rfl (lv_at hl 0 rfl) ?_
    refine lv_bipush (v := 9) hx hb dX8_openBlock_91 (by decide) ?_
    refine lv_iconst (v := 2) hx hb dX8_openBlock_93 (by decide) ?_
    refine lv_iload_n hx hb dX8_openBlock_94 rfl (lv_at hl 1 rfl) ?_
    refine lv_bipush (v := 6) hx hb dX8_openBlock_95 (by decide) ?_
    refine lv_aload_n hx hb dX8_openBlock_97 rfl (lv_at hl 0 rfl) ?_
    refine va_get (D := D) (ci := 8) (v := .ref (ad 110)) (C := RX8) (T := TX8) (N := 48) hx hb hts layX8 hown hK hP 0 rfl rfl 19 (by decide) (hts _ (inA q997)) (fun _ h9 => h9) rfl dX8_openBlock_98 ?_
    refine lv_iload_n hx hb dX8_openBlock_101 rfl (lv_at hl 1 rfl) ?_
    obtain ⟨b9, hM⟩ := gd_use hM
    refine va_iald hx hb hK hP 9 0 rfl rfl b9 dX8_openBlock_102 ?_
    refine lv_iadd hx hb dX8_openBlock_103 ?_
    obtain ⟨r10, hcr10, hM⟩ := ob_use hM
    refine cl_V (As := [.int 9, .int 2, .int a1, .int (6 + (o_T.2.2.2.2.1 a1.toNatClampNeg))]) (rest := []) (wM0 ad o_X o_L o_N o_T o_U o_O o_E o_Q o_V r10 ++ wMC cI ad o_C ++ wMN cI ad o_N ++ wMT cI ad o_T ++ wMV cI ad o_V ++ wMI cI ad r10) [] ⟨hx, hb, hml, hown, hts⟩ (c_Model_itemAll l D cI sd ad o_C o_X o_L o_N o_U o_O o_E o_Q o_V o_T o_I 9 2 a1 (6 + (o_T.2.2.2.2.1 a1.toNatClampNeg)) r10 hcr10) (cwV2 hts q1559 mvX8_itemAll rfl rfl ⟨(Nat.le_of_ble_eq_true rfl), (Nat.le_of_ble_eq_true rfl)⟩) hK hE hA hP hD hS 0 (T := TX8) (N := 48) (ci := 8) rfl rfl [0, 7, 8, 9, 10, 11, 12, 13, 15, 16] rfl (by decide) rfl rfl rfl rfl rfl rfl hl.1 (Nat.le_of_ble_eq_true rfl) dX8_openBlock_104 ⟨Nat.zero_le _, Nat.zero_le _⟩ (fun H locs hP hD hS => ?_)
    refine lv_goto (tgt := 199) hx hb dX8_openBlock_107 (by decide) ?_
    cases hM
    exact rt_v hx hb hr hlk hP hD hS rfl dX8_openBlock_199
  replace hM := if_f c8 hM
  by_cases c11 : (o_T.2.2.1 a1.toNatClampNeg) = 5
  · replace hM := if_t c11 hM
    refine lv_tableIn (tgt := 110) hx hb dX8_openBlock_6 (by rw [c11]; decide) (by rw [c11]; decide) (by rw [c11]; rfl) (by decide) ?_
    refine lv_aload_n hx hb dX8_openBlock_110 rfl (lv_at hl 0 rfl) ?_
    refine lv_bipush (v := 7) hx hb dX8_openBlock_111 (by decide) ?_
    refine lv_aload_n hx hb dX8_openBlock_113 rfl (lv_at hl 0 rfl) ?_
    refine va_get (D := D) (ci := 8) (v := .ref (ad 114)) (C := RX8) (T := TX8) (N := 48) hx hb hts layX8 hown hK hP 0 rfl rfl 23 (by decide) (hts _ (inA q1001)) (fun _ h9 => h9) rfl dX8_openBlock_114 ?_
    refine lv_aload_n hx hb dX8_openBlock_117 rfl (lv_at hl 0 rfl) ?_
    refine va_get (D := D) (ci := 8) (v := .ref (ad 112)) (C := RX8) (T := TX8) (N := 48) hx hb hts layX8 hown hK hP 0 rfl rfl 21 (by decide) (hts _ (inA q999)) (fun _ h9 => h9) rfl dX8_openBlock_118 ?_
    refine lv_iload_n hx hb dX8_openBlock_121 rfl (lv_at hl 1 rfl) ?_
    obtain ⟨b12, hM⟩ := gd_use hM
    refine va_iald hx hb hK hP 11 0 rfl rfl b12 dX8_openBlock_122 ?_
    obtain ⟨b13, hM⟩ := gd_use hM
    refine va_iald hx hb hK hP 13 0 rfl rfl b13 dX8_openBlock_123 ?_
    obtain ⟨r14, hcr14, hM⟩ := ob_use hM
    refine cl_V (As := [.int 7, .int (o_T.2.2.2.2.2.2.2.2 (o_T.2.2.2.2.2.2.1 a1.toNatClampNeg).toNatClampNeg)]) (rest := []) (wM0 ad o_X o_L o_N o_T o_U o_O o_E o_Q o_V r14 ++ wMC cI ad o_C ++ wMN cI ad o_N ++ wMT cI ad o_T ++ wMV cI ad o_V ++ wMI cI ad r14) [] ⟨hx, hb, hml, hown, hts⟩ (c_Model_item l D cI sd ad o_C o_X o_L o_N o_T o_U o_O o_E o_Q o_V o_I 7 (o_T.2.2.2.2.2.2.2.2 (o_T.2.2.2.2.2.2.1 a1.toNatClampNeg).toNatClampNeg) r14 hcr14) (cwV2 hts q1512 mvX8_item rfl rfl ⟨(Nat.le_of_ble_eq_true rfl), (Nat.le_of_ble_eq_true rfl)⟩) hK hE hA hP hD hS 0 (T := TX8) (N := 48) (ci := 8) rfl rfl [0, 15, 16] rfl (by decide) rfl rfl rfl rfl rfl rfl hl.1 (Nat.le_of_ble_eq_true rfl) dX8_openBlock_124 ⟨Nat.zero_le _, Nat.zero_le _⟩ (fun H locs hP hD hS => ?_)
    refine lv_aload_n hx hb dX8_openBlock_127 rfl (lv_at hl 0 rfl) ?_
    refine lv_iconst (v := 1) hx hb dX8_openBlock_128 (by decide) ?_
    refine lv_aload_n hx hb dX8_openBlock_129 rfl (lv_at hl 0 rfl) ?_
    refine va_get (D := D) (ci := 8) (v := .ref (ad 112)) (C := RX8) (T := TX8) (N := 48) hx hb hts layX8 hown hK hP 0 rfl rfl 21 (by decide) (hts _ (inA q999)) (fun _ h9 => h9) rfl dX8_openBlock_130 ?_
    refine lv_iload_n hx hb dX8_openBlock_133 rfl (lv_at hl 1 rfl) ?_
    obtain ⟨b15, hM⟩ := gd_use hM
    refine va_iald hx hb hK hP 11 0 rfl rfl b15 dX8_openBlock_134 ?_
    obtain ⟨r16, hcr16, hM⟩ := ob_use hM
    refine cl_V (As := [.int 1, .int (o_T.2.2.2.2.2.2.1 a1.toNatClampNeg)]) (rest := []) (wM0 ad o_X o_L o_N o_T o_U o_O o_E o_Q o_V r16 ++ wMC cI ad o_C ++ wMN cI ad o_N ++ wMT cI ad o_T ++ wMV cI ad o_V ++ wMI cI ad r16) [] ⟨hx, hb, hml, hown, hts⟩ (c_Model_item l D cI sd ad o_C o_X o_L o_N o_T o_U o_O o_E o_Q o_V r14 1 (o_T.2.2.2.2.2.2.1 a1.toNatClampNeg) r16 hcr16) (cwV2 hts q1512 mvX8_item rfl rfl ⟨(Nat.le_of_ble_eq_true rfl), (Nat.le_of_ble_eq_true rfl)⟩) hK hE hA hP hD hS 0 (T := TX8) (N := 48) (ci := 8) rfl rfl [0, 15, 16] rfl (by decide) rfl rfl rfl rfl rfl rfl hl.1 (Nat.le_of_ble_eq_true rfl) dX8_openBlock_135 ⟨Nat.zero_le _, Nat.zero_le _⟩ (fun H locs hP hD hS => ?_)
    refine lv_goto (tgt := 199) hx hb dX8_openBlock_138 (by decide) ?_
    cases hM
    exact rt_v hx hb hr hlk hP hD hS rfl dX8_openBlock_199
  replace hM := if_f c11 hM
  by_cases c17 : (o_T.2.2.1 a1.toNatClampNeg) = 6
  · replace hM := if_t c17 hM
    refine lv_tableIn (tgt := 178) hx hb dX8_openBlock_6 (by rw [c17]; decide) (by rw [c17]; decide) (by rw [c17]; rfl) (by decide) ?_
    refine lv_aload_n hx hb dX8_openBlock_178 rfl (lv_at hl 0 rfl) ?_
    refine lv_aload_n hx hb dX8_openBlock_179 rfl (lv_at hl 0 rfl) ?_
    refine va_get (D := D) (ci := 8) (v := .ref (ad 110)) (C := RX8) (T := TX8) (N := 48) hx hb hts layX8 hown hK hP 0 rfl rfl 19 (by decide) (hts _ (inA q997)) (fun _ h9 => h9) rfl dX8_openBlock_180 ?_
    refine lv_iload_n hx hb dX8_openBlock_183 rfl (lv_at hl 1 rfl) ?_
    obtain ⟨b18, hM⟩ := gd_use hM
    refine va_iald hx hb hK hP 9 0 rfl rfl b18 dX8_openBlock_184 ?_
    obtain ⟨r19, hcr19, hM⟩ := ob_use hM
    refine cl_V (As := [.int (o_T.2.2.2.2.1 a1.toNatClampNeg)]) (rest := []) (wM0 ad o_X o_L o_N o_T o_U o_O o_E o_Q r19 o_I ++ wMC cI ad o_C ++ wMN cI ad o_N ++ wMT cI ad o_T ++ wMV cI ad r19 ++ wMI cI ad o_I) [] ⟨hx, hb, hml, hown, hts⟩ (c_Model_putName l D cI sd ad o_C o_X o_L o_T o_U o_O o_E o_Q o_I o_N o_V (o_T.2.2.2.2.1 a1.toNatClampNeg) r19 hcr19) (cwV2 hts q1535 mvX8_putName rfl rfl ⟨(Nat.le_of_ble_eq_true rfl), (Nat.le_of_ble_eq_true rfl)⟩) hK hE hA hP hD hS 0 (T := TX8) (N := 48) (ci := 8) rfl rfl [0, 5, 6, 14] rfl (by decide) rfl rfl rfl rfl rfl rfl hl.1 (Nat.le_of_ble_eq_true rfl) dX8_openBlock_185 ⟨Nat.zero_le _, Nat.zero_le _⟩ (fun H locs hP hD hS => ?_)
    refine lv_goto (tgt := 199) hx hb dX8_openBlock_188 (by decide) ?_
    cases hM
    exact rt_v hx hb hr hlk hP hD hS rfl dX8_openBlock_199
  replace hM := if_f c17 hM
  by_cases c20 : (o_T.2.2.1 a1.toNatClampNeg) = 7
  · replace hM := if_t c20 hM
    refine lv_tableIn (tgt := 141) hx hb dX8_openBlock_6 (by rw [c20]; decide) (by rw [c20]; decide) (by rw [c20]; rfl) (by decide) ?_
    refine lv_aload_n hx hb dX8_openBlock_141 rfl (lv_at hl 0 rfl) ?_
    refine lv_aload_n hx hb dX8_openBlock_142 rfl (lv_at hl 0 rfl) ?_
    refine va_get (D := D) (ci := 8) (v := .ref (ad 110)) (C := RX8) (T := TX8) (N := 48) hx hb hts layX8 hown hK hP 0 rfl rfl 19 (by decide) (hts _ (inA q997)) (fun _ h9 => h9) rfl dX8_openBlock_143 ?_
    refine lv_iload_n hx hb dX8_openBlock_146 rfl (lv_at hl 1 rfl) ?_
    obtain ⟨b21, hM⟩ := gd_use hM
    refine va_iald hx hb hK hP 9 0 rfl rfl b21 dX8_openBlock_147 ?_
    obtain ⟨r22, hcr22, hM⟩ := ob_use hM
    refine cl_V (As := [.int (o_T.2.2.2.2.1 a1.toNatClampNeg)]) (rest := []) (wM0 ad o_X o_L o_N o_T o_U o_O o_E o_Q r22 o_I ++ wMC cI ad o_C ++ wMN cI ad o_N ++ wMT cI ad o_T ++ wMV cI ad r22 ++ wMI cI ad o_I) [] ⟨hx, hb, hml, hown, hts⟩ (c_Model_putPlace l D cI sd ad o_X o_L o_N o_T o_U o_O o_E o_Q o_I o_C o_V (o_T.2.2.2.2.1 a1.toNatClampNeg) r22 hcr22) (cwV2 hts q1563 mvX8_putPlace rfl rfl ⟨(Nat.le_of_ble_eq_true rfl), (Nat.le_of_ble_eq_true rfl)⟩) hK hE hA hP hD hS 0 (T := TX8) (N := 48) (ci := 8) rfl rfl [0, 1, 2, 3, 4, 14] rfl (by decide) rfl rfl rfl rfl rfl rfl hl.1 (Nat.le_of_ble_eq_true rfl) dX8_openBlock_148 ⟨Nat.zero_le _, Nat.zero_le _⟩ (fun H locs hP hD hS => ?_)
    refine lv_goto (tgt := 199) hx hb dX8_openBlock_151 (by decide) ?_
    cases hM
    exact rt_v hx hb hr hlk hP hD hS rfl dX8_openBlock_199
  replace hM := if_f c20 hM
  by_cases c23 : (o_T.2.2.1 a1.toNatClampNeg) = 8
  · replace hM := if_t c23 hM
    refine lv_tableIn (tgt := 154) hx hb dX8_openBlock_6 (by rw [c23]; decide) (by rw [c23]; decide) (by rw [c23]; rfl) (by decide) ?_
    refine lv_aload_n hx hb dX8_openBlock_154 rfl (lv_at hl 0 rfl) ?_
    refine lv_bipush (v := 11) hx hb dX8_openBlock_155 (by decide) ?_
    refine lv_aload_n hx hb dX8_openBlock_157 rfl (lv_at hl 0 rfl) ?_
    refine va_get (D := D) (ci := 8) (v := .ref (ad 110)) (C := RX8) (T := TX8) (N := 48) hx hb hts layX8 hown hK hP 0 rfl rfl 19 (by decide) (hts _ (inA q997)) (fun _ h9 => h9) rfl dX8_openBlock_158 ?_
    refine lv_iload_n hx hb dX8_openBlock_161 rfl (lv_at hl 1 rfl) ?_
    obtain ⟨b24, hM⟩ := gd_use hM
    refine va_iald hx hb hK hP 9 0 rfl rfl b24 dX8_openBlock_162 ?_
    refine lv_iadd hx hb dX8_openBlock_163 ?_
    obtain ⟨r25, hcr25, hM⟩ := ob_use hM
    refine cl_V (As := [.int (11 + (o_T.2.2.2.2.1 a1.toNatClampNeg))]) (rest := []) (wM0 ad o_X o_L o_N o_T o_U o_O o_E o_Q r25 o_I ++ wMC cI ad o_C ++ wMN cI ad o_N ++ wMT cI ad o_T ++ wMV cI ad r25 ++ wMI cI ad o_I) [] ⟨hx, hb, hml, hown, hts⟩ (c_Model_putToken l D cI sd ad o_X o_L o_N o_T o_U o_O o_E o_Q o_I o_C o_V (11 + (o_T.2.2.2.2.1 a1.toNatClampNeg)) r25 hcr25) (cwV2 hts q1520 mvX8_putToken rfl rfl ⟨(Nat.le_of_ble_eq_true rfl), (Nat.le_of_ble_eq_true rfl)⟩) hK hE hA hP hD hS 0 (T := TX8) (N := 48) (ci := 8) rfl rfl [0, 1, 2, 3, 4, 14] rfl (by decide) rfl rfl rfl rfl rfl rfl hl.1 (Nat.le_of_ble_eq_true rfl) dX8_openBlock_164 ⟨Nat.zero_le _, Nat.zero_le _⟩ (fun H locs hP hD hS => ?_)
    refine lv_goto (tgt := 199) hx hb dX8_openBlock_167 (by decide) ?_
    cases hM
    exact rt_v hx hb hr hlk hP hD hS rfl dX8_openBlock_199
  replace hM := if_f c23 hM
  by_cases c26 : (o_T.2.2.1 a1.toNatClampNeg) = 9
  · replace hM := if_t c26 hM
    refine lv_tableIn (tgt := 170) hx hb dX8_openBlock_6 (by rw [c26]; decide) (by rw [c26]; decide) (by rw [c26]; rfl) (by decide) ?_
    refine lv_aload_n hx hb dX8_openBlock_170 rfl (lv_at hl 0 rfl) ?_
    refine lv_iload_n hx hb dX8_openBlock_171 rfl (lv_at hl 1 rfl) ?_
    obtain ⟨r27, hcr27, hM⟩ := ob_use hM
    refine cl_V (As := [.int a1]) (rest := []) (wM0 ad o_X o_L o_N o_T o_U o_O o_E o_Q o_V r27 ++ wMC cI ad o_C ++ wMN cI ad o_N ++ wMT cI ad o_T ++ wMV cI ad o_V ++ wMI cI ad r27) [] ⟨hx, hb, hml, hown, hts⟩ (c_Model_itemArray l D cI sd ad o_C o_X o_L o_N o_U o_O o_E o_Q o_V o_T o_I a1 r27 hcr27) (cwV2 hts q1567 mvX8_itemArray rfl rfl ⟨(Nat.le_of_ble_eq_true rfl), (Nat.le_of_ble_eq_true rfl)⟩) hK hE hA hP hD hS 0 (T := TX8) (N := 48) (ci := 8) rfl rfl [0, 7, 8, 9, 10, 11, 12, 13, 15, 16] rfl (by decide) rfl rfl rfl rfl rfl rfl hl.1 (Nat.le_of_ble_eq_true rfl) dX8_openBlock_172 ⟨Nat.zero_le _, Nat.zero_le _⟩ (fun H locs hP hD hS => ?_)
    refine lv_goto (tgt := 199) hx hb dX8_openBlock_175 (by decide) ?_
    cases hM
    exact rt_v hx hb hr hlk hP hD hS rfl dX8_openBlock_199
  replace hM := if_f c26 hM
  by_cases c28 : (o_T.2.2.1 a1.toNatClampNeg) = 10
  · replace hM := if_t c28 hM
    refine lv_tableIn (tgt := 178) hx hb dX8_openBlock_6 (by rw [c28]; decide) (by rw [c28]; decide) (by rw [c28]; rfl) (by decide) ?_
    refine lv_aload_n hx hb dX8_openBlock_178 rfl (lv_at hl 0 rfl) ?_
    refine lv_aload_n hx hb dX8_openBlock_179 rfl (lv_at hl 0 rfl) ?_
    refine va_get (D := D) (ci := 8) (v := .ref (ad 110)) (C := RX8) (T := TX8) (N := 48) hx hb hts layX8 hown hK hP 0 rfl rfl 19 (by decide) (hts _ (inA q997)) (fun _ h9 => h9) rfl dX8_openBlock_180 ?_
    refine lv_iload_n hx hb dX8_openBlock_183 rfl (lv_at hl 1 rfl) ?_
    obtain ⟨b29, hM⟩ := gd_use hM
    refine va_iald hx hb hK hP 9 0 rfl rfl b29 dX8_openBlock_184 ?_
    obtain ⟨r30, hcr30, hM⟩ := ob_use hM
    refine cl_V (As := [.int (o_T.2.2.2.2.1 a1.toNatClampNeg)]) (rest := []) (wM0 ad o_X o_L o_N o_T o_U o_O o_E o_Q r30 o_I ++ wMC cI ad o_C ++ wMN cI ad o_N ++ wMT cI ad o_T ++ wMV cI ad r30 ++ wMI cI ad o_I) [] ⟨hx, hb, hml, hown, hts⟩ (c_Model_putName l D cI sd ad o_C o_X o_L o_T o_U o_O o_E o_Q o_I o_N o_V (o_T.2.2.2.2.1 a1.toNatClampNeg) r30 hcr30) (cwV2 hts q1535 mvX8_putName rfl rfl ⟨(Nat.le_of_ble_eq_true rfl), (Nat.le_of_ble_eq_true rfl)⟩) hK hE hA hP hD hS 0 (T := TX8) (N := 48) (ci := 8) rfl rfl [0, 5, 6, 14] rfl (by decide) rfl rfl rfl rfl rfl rfl hl.1 (Nat.le_of_ble_eq_true rfl) dX8_openBlock_185 ⟨Nat.zero_le _, Nat.zero_le _⟩ (fun H locs hP hD hS => ?_)
    refine lv_goto (tgt := 199) hx hb dX8_openBlock_188 (by decide) ?_
    cases hM
    exact rt_v hx hb hr hlk hP hD hS rfl dX8_openBlock_199
  replace hM := if_f c28 hM
  refine lv_tableOut (tgt := 191) hx hb dX8_openBlock_6 (by have := lv_neT c2 (show (1 : Int32).toInt = 1 by decide); have := lv_neT c4 (show (2 : Int32).toInt = 2 by decide); have := lv_neT c6 (show (3 : Int32).toInt = 3 by decide); have := lv_neT c8 (show (4 : Int32).toInt = 4 by decide); have := lv_neT c11 (show (5 : Int32).toInt = 5 by decide); have := lv_neT c17 (show (6 : Int32).toInt = 6 by decide); have := lv_neT c20 (show (7 : Int32).toInt = 7 by decide); have := lv_neT c23 (show (8 : Int32).toInt = 8 by decide); have := lv_neT c26 (show (9 : Int32).toInt = 9 by decide); have := lv_neT c28 (show (10 : Int32).toInt = 10 by decide); omega) (by decide) ?_
  refine lv_aload_n hx hb dX8_openBlock_191 rfl (lv_at hl 0 rfl) ?_
  refine lv_iconst (v := (-1)) hx hb dX8_openBlock_192 (by decide) ?_
  refine lv_iconst (v := 2) hx hb dX8_openBlock_193 (by decide) ?_
  refine lv_iload_n hx hb dX8_openBlock_194 rfl (lv_at hl 1 rfl) ?_
  refine lv_iconst (v := (-1)) hx hb dX8_openBlock_195 (by decide) ?_
  obtain ⟨r31, hcr31, hM⟩ := ob_use hM
  refine cl_V (As := [.int (-1), .int 2, .int a1, .int (-1)]) (rest := []) (wM0 ad o_X o_L o_N o_T o_U o_O o_E o_Q o_V r31 ++ wMC cI ad o_C ++ wMN cI ad o_N ++ wMT cI ad o_T ++ wMV cI ad o_V ++ wMI cI ad r31) [] ⟨hx, hb, hml, hown, hts⟩ (c_Model_itemAll l D cI sd ad o_C o_X o_L o_N o_U o_O o_E o_Q o_V o_T o_I (-1) 2 a1 (-1) r31 hcr31) (cwV2 hts q1559 mvX8_itemAll rfl rfl ⟨(Nat.le_of_ble_eq_true rfl), (Nat.le_of_ble_eq_true rfl)⟩) hK hE hA hP hD hS 0 (T := TX8) (N := 48) (ci := 8) rfl rfl [0, 7, 8, 9, 10, 11, 12, 13, 15, 16] rfl (by decide) rfl rfl rfl rfl rfl rfl hl.1 (Nat.le_of_ble_eq_true rfl) dX8_openBlock_196 ⟨Nat.zero_le _, Nat.zero_le _⟩ (fun H locs hP hD hS => ?_)
  cases hM
  exact rt_v hx hb hr hlk hP hD hS rfl dX8_openBlock_199

set_option maxHeartbeats 4000000 in
set_option maxRecDepth 100000 in
theorem c_Model_openNode (l : Launch) (D : va_G) (cI : ClassId) (sd : Nat → Nat) (ad : Nat → Nat) (o_X : S_MX) (o_L : S_ML) (o_U : S_MU) (o_O : S_MO) (o_E : S_ME) (o_Q : S_MQ) (o_C : S_MC) (o_N : S_MN) (o_T : S_MT) (o_V : S_MV) (o_I : S_MI) (a1 : Int32) (res : S_MV × S_MI) (hM : f_Model_openNode o_C o_N o_T o_V o_I a1 = some res) : Ctr l D cI sd yX8_openNode (wsM yX8_openNode cX8_openNode 2 (Option.none : Option Jvm.ClassFile.FieldType)) { frames := 5, cells := 0, slots := 0, locals := 107 } [.ref (ad 100), .int a1] (wM0 ad o_X o_L o_N o_T o_U o_O o_E o_Q o_V o_I ++ wMC cI ad o_C ++ wMN cI ad o_N ++ wMT cI ad o_T ++ wMV cI ad o_V ++ wMI cI ad o_I) (wM0 ad o_X o_L o_N o_T o_U o_O o_E o_Q res.1 res.2 ++ wMC cI ad o_C ++ wMN cI ad o_N ++ wMT cI ad o_T ++ wMV cI ad res.1 ++ wMI cI ad res.2) none := by
  refine Ctr.of (cc := cX8_openNode) (maxL := 2) (own := RX8) (by decide +kernel) rfl rfl (Nat.le_of_ble_eq_true rfl) ?_
  intro p e s m below meth c A ls hx hb hr hml hown hts hlk hK hE hA hP hD hS hl
  have hl : lv_has ls 2 [(0, .ref (ad 100)), (1, .int a1)] := hl
  unfold f_Model_openNode at hM
  refine lv_aload_n hx hb dX8_openNode_0 rfl (lv_at hl 0 rfl) ?_
  refine va_get (D := D) (ci := 8) (v := .ref (ad 108)) (C := RX8) (T := TX8) (N := 48) hx hb hts layX8 hown hK hP 0 rfl rfl 17 (by decide) (hts _ (inA q995)) (fun _ h9 => h9) rfl dX8_openNode_1 ?_
  refine lv_iload_n hx hb dX8_openNode_4 rfl (lv_at hl 1 rfl) ?_
  obtain ⟨b1, hM⟩ := gd_use hM
  refine va_iald hx hb hK hP 7 0 rfl rfl b1 dX8_openNode_5 ?_
  refine lv_bipush (v := 12) hx hb dX8_openNode_6 (by decide) ?_
  refine lv_icmp_ge (tgt := 19) hx hb dX8_openNode_8 (by decide) (fun c2 => ?_) (fun c2 => ?_)
  · replace hM := if_t c2 hM
    refine lv_aload_n hx hb dX8_openNode_19 rfl (lv_at hl 0 rfl) ?_
    refine va_get (D := D) (ci := 8) (v := .ref (ad 108)) (C := RX8) (T := TX8) (N := 48) hx hb hts layX8 hown hK hP 0 rfl rfl 17 (by decide) (hts _ (inA q995)) (fun _ h9 => h9) rfl dX8_openNode_20 ?_
    refine lv_iload_n hx hb dX8_openNode_23 rfl (lv_at hl 1 rfl) ?_
    obtain ⟨b3, hM⟩ := gd_use hM
    refine va_iald hx hb hK hP 7 0 rfl rfl b3 dX8_openNode_24 ?_
    refine lv_bipush (v := 22) hx hb dX8_openNode_25 (by decide) ?_
    refine lv_icmp_ge (tgt := 38) hx hb dX8_openNode_27 (by decide) (fun c4 => ?_) (fun c4 => ?_)
    · replace hM := if_t c4 hM
      refine lv_aload_n hx hb dX8_openNode_38 rfl (lv_at hl 0 rfl) ?_
      refine va_get (D := D) (ci := 8) (v := .ref (ad 108)) (C := RX8) (T := TX8) (N := 48) hx hb hts layX8 hown hK hP 0 rfl rfl 17 (by decide) (hts _ (inA q995)) (fun _ h9 => h9) rfl dX8_openNode_39 ?_
      refine lv_iload_n hx hb dX8_openNode_42 rfl (lv_at hl 1 rfl) ?_
      obtain ⟨b5, hM⟩ := gd_use hM
      refine va_iald hx hb hK hP 7 0 rfl rfl b5 dX8_openNode_43 ?_
      refine lv_bipush (v := 30) hx hb dX8_openNode_44 (by decide) ?_
      refine lv_icmp_ge (tgt := 57) hx hb dX8_openNode_46 (by decide) (fun c6 => ?_) (fun c6 => ?_)
      · replace hM := if_t c6 hM
        refine lv_aload_n hx hb dX8_openNode_57 rfl (lv_at hl 0 rfl) ?_
        refine lv_iload_n hx hb dX8_openNode_58 rfl (lv_at hl 1 rfl) ?_
        obtain ⟨r7, hcr7, hM⟩ := ob_use hM
        refine cl_V (As := [.int a1]) (rest := []) (wM0 ad o_X o_L o_N o_T o_U o_O o_E o_Q r7.1 r7.2 ++ wMC cI ad o_C ++ wMN cI ad o_N ++ wMT cI ad o_T ++ wMV cI ad r7.1 ++ wMI cI ad r7.2) [] ⟨hx, hb, hml, hown, hts⟩ (c_Model_openOperand l D cI sd ad o_X o_L o_N o_U o_O o_E o_Q o_C o_T o_V o_I a1 r7 hcr7) (cwV2 hts q1583 mvX8_openOperand rfl rfl ⟨(Nat.le_of_ble_eq_true rfl), (Nat.le_of_ble_eq_true rfl)⟩) hK hE hA hP hD hS 0 (T := TX8) (N := 48) (ci := 8) rfl rfl [0, 1, 2, 3, 4, 7, 8, 9, 10, 11, 12, 13, 14, 15, 16] rfl (by decide) rfl rfl rfl rfl rfl rfl hl.1 (Nat.le_of_ble_eq_true rfl) dX8_openNode_59 ⟨Nat.zero_le _, Nat.zero_le _⟩ (fun H locs hP hD hS => ?_)
        cases hM
        exact rt_v hx hb hr hlk hP hD hS rfl dX8_openNode_62
      · replace hM := if_f c6 hM
        refine lv_aload_n hx hb dX8_openNode_49 rfl (lv_at hl 0 rfl) ?_
        refine lv_iload_n hx hb dX8_openNode_50 rfl (lv_at hl 1 rfl) ?_
        obtain ⟨r8, hcr8, hM⟩ := ob_use hM
        refine cl_V (As := [.int a1]) (rest := []) (wM0 ad o_X o_L o_N o_T o_U o_O o_E o_Q r8.1 r8.2 ++ wMC cI ad o_C ++ wMN cI ad o_N ++ wMT cI ad o_T ++ wMV cI ad r8.1 ++ wMI cI ad r8.2) [] ⟨hx, hb, hml, hown, hts⟩ (c_Model_openRung l D cI sd ad o_X o_L o_N o_U o_O o_E o_Q o_C o_T o_V o_I a1 r8 hcr8) (cwV2 hts q1579 mvX8_openRung rfl rfl ⟨(Nat.le_of_ble_eq_true rfl), (Nat.le_of_ble_eq_true rfl)⟩) hK hE hA hP hD hS 0 (T := TX8) (N := 48) (ci := 8) rfl rfl [0, 1, 2, 3, 4, 7, 8, 9, 10, 11, 12, 13, 14, 15, 16] rfl (by decide) rfl rfl rfl rfl rfl rfl hl.1 (Nat.le_of_ble_eq_true rfl) dX8_openNode_51 ⟨Nat.zero_le _, Nat.zero_le _⟩ (fun H locs hP hD hS => ?_)
        refine lv_goto (tgt := 62) hx hb dX8_openNode_54 (by decide) ?_
        cases hM
        exact rt_v hx hb hr hlk hP hD hS rfl dX8_openNode_62
    · replace hM := if_f c4 hM
      refine lv_aload_n hx hb dX8_openNode_30 rfl (lv_at hl 0 rfl) ?_
      refine lv_iload_n hx hb dX8_openNode_31 rfl (lv_at hl 1 rfl) ?_
      obtain ⟨r9, hcr9, hM⟩ := ob_use hM
      refine cl_V (As := [.int a1]) (rest := []) (wM0 ad o_X o_L o_N o_T o_U o_O o_E o_Q o_V r9 ++ wMC cI ad o_C ++ wMN cI ad o_N ++ wMT cI ad o_T ++ wMV cI ad o_V ++ wMI cI ad r9) [] ⟨hx, hb, hml, hown, hts⟩ (c_Model_openStatement l D cI sd ad o_C o_X o_L o_N o_U o_O o_E o_Q o_V o_T o_I a1 r9 hcr9) (cwV2 hts q1571 mvX8_openStatement rfl rfl ⟨(Nat.le_of_ble_eq_true rfl), (Nat.le_of_ble_eq_true rfl)⟩) hK hE hA hP hD hS 0 (T := TX8) (N := 48) (ci := 8) rfl rfl [0, 7, 8, 9, 10, 11, 12, 13, 15, 16] rfl (by decide) rfl rfl rfl rfl rfl rfl hl.1 (Nat.le_of_ble_eq_true rfl) dX8_openNode_32 ⟨Nat.zero_le _, Nat.zero_le _⟩ (fun H locs hP hD hS => ?_)
      refine lv_goto (tgt := 62) hx hb dX8_openNode_35 (by decide) ?_
      cases hM
      exact rt_v hx hb hr hlk hP hD hS rfl dX8_openNode_62
  · replace hM := if_f c2 hM
    refine lv_aload_n hx hb dX8_openNode_11 rfl (lv_at hl 0 rfl) ?_
    refine lv_iload_n hx hb dX8_openNode_12 rfl (lv_at hl 1 rfl) ?_
    obtain ⟨r10, hcr10, hM⟩ := ob_use hM
    refine cl_V (As := [.int a1]) (rest := []) (wM0 ad o_X o_L o_N o_T o_U o_O o_E o_Q r10.1 r10.2 ++ wMC cI ad o_C ++ wMN cI ad o_N ++ wMT cI ad o_T ++ wMV cI ad r10.1 ++ wMI cI ad r10.2) [] ⟨hx, hb, hml, hown, hts⟩ (c_Model_openBlock l D cI sd ad o_X o_L o_U o_O o_E o_Q o_C o_N o_T o_V o_I a1 r10 hcr10) (cwV2 hts q1547 mvX8_openBlock rfl rfl ⟨(Nat.le_of_ble_eq_true rfl), (Nat.le_of_ble_eq_true rfl)⟩) hK hE hA hP hD hS 0 (T := TX8) (N := 48) (ci := 8) rfl rfl [0, 1, 2, 3, 4, 5, 6, 7, 8, 9, 10, 11, 12, 13, 14, 15, 16] rfl (by decide) rfl rfl rfl rfl rfl rfl hl.1 (Nat.le_of_ble_eq_true rfl) dX8_openNode_13 ⟨Nat.zero_le _, Nat.zero_le _⟩ (fun H locs hP hD hS => ?_)
    refine lv_goto (tgt := 62) hx hb dX8_openNode_16 (by decide) ?_
    cases hM
    exact rt_v hx hb hr hlk hP hD hS rfl dX8_openNode_62

set_option maxHeartbeats 4000000 in
set_option maxRecDepth 100000 in
theorem c_Model_openParts (l : Launch) (D : va_G) (cI : ClassId) (sd : Nat → Nat) (ad : Nat → Nat) (o_X : S_MX) (o_L : S_ML) (o_N : S_MN) (o_U : S_MU) (o_O : S_MO) (o_E : S_ME) (o_Q : S_MQ) (o_C : S_MC) (o_T : S_MT) (o_V : S_MV) (o_I : S_MI) (a1 : Int32) (res : S_MV × S_MI) (hM : f_Model_openParts o_C o_T o_V o_I a1 = some res) : Ctr l D cI sd yX8_openParts (wsM yX8_openParts cX8_openParts 3 (Option.none : Option Jvm.ClassFile.FieldType)) { frames := 4, cells := 0, slots := 0, locals := 83 } [.ref (ad 100), .int a1] (wM0 ad o_X o_L o_N o_T o_U o_O o_E o_Q o_V o_I ++ wMC cI ad o_C ++ wMT cI ad o_T ++ wMV cI ad o_V ++ wMI cI ad o_I) (wM0 ad o_X o_L o_N o_T o_U o_O o_E o_Q res.1 res.2 ++ wMC cI ad o_C ++ wMT cI ad o_T ++ wMV cI ad res.1 ++ wMI cI ad res.2) none := by
  refine Ctr.of (cc := cX8_openParts) (maxL := 3) (own := RX8) (by decide +kernel) rfl rfl (Nat.le_of_ble_eq_true rfl) ?_
  intro p e s m below meth c A ls hx hb hr hml hown hts hlk hK hE hA hP hD hS hl
  have hl : lv_has ls 3 [(0, .ref (ad 100)), (1, .int a1)] := hl
  unfold f_Model_openParts at hM
  refine lv_iload_n hx hb dX8_openParts_0 rfl (lv_at hl 1 rfl) ?_
  refine lv_iconst (v := (-1)) hx hb dX8_openParts_1 (by decide) ?_
  refine lv_icmp_ne (tgt := 12) hx hb dX8_openParts_2 (by decide) (fun c1 => ?_) (fun c1 => ?_)
  · replace hM := if_f c1 hM
    refine lv_aload_n hx hb dX8_openParts_12 rfl (lv_at hl 0 rfl) ?_
    refine va_get (D := D) (ci := 8) (v := .ref (ad 108)) (C := RX8) (T := TX8) (N := 48) hx hb hts layX8 hown hK hP 0 rfl rfl 17 (by decide) (hts _ (inA q995)) (fun _ h9 => h9) rfl dX8_openParts_13 ?_
    refine lv_iload_n hx hb dX8_openParts_16 rfl (lv_at hl 1 rfl) ?_
    obtain ⟨b2, hM⟩ := gd_use hM
    refine va_iald hx hb hK hP 5 0 rfl rfl b2 dX8_openParts_17 ?_
    refine lv_topi (fun x3 ex3 => ?_)
    replace hM := nm_use ex3 hM
    refine lv_istore_n (lv' := [(2, .int x3), (0, .ref (ad 100)), (1, .int a1)]) hx hb dX8_openParts_18 rfl hl (by decide) rfl (fun ls hl => ?_)
    refine lv_aload_n hx hb dX8_openParts_19 rfl (lv_at hl 1 rfl) ?_
    refine lv_bipush (v := 7) hx hb dX8_openParts_20 (by decide) ?_
    refine lv_aload_n hx hb dX8_openParts_22 rfl (lv_at hl 1 rfl) ?_
    refine va_get (D := D) (ci := 8) (v := .ref (ad 114)) (C := RX8) (T := TX8) (N := 48) hx hb hts layX8 hown hK hP 0 rfl rfl 23 (by decide) (hts _ (inA q1001)) (fun _ h9 => h9) rfl dX8_openParts_23 ?_
    refine lv_iload_n hx hb dX8_openParts_26 rfl (lv_at hl 2 rfl) ?_
    obtain ⟨b4, hM⟩ := gd_use hM
    refine va_iald hx hb hK hP 11 0 rfl rfl b4 dX8_openParts_27 ?_
    obtain ⟨r5, hcr5, hM⟩ := ob_use hM
    refine cl_V (As := [.int 7, .int (o_T.2.2.2.2.2.2.2.2 a1.toNatClampNeg)]) (rest := []) (wM0 ad o_X o_L o_N o_T o_U o_O o_E o_Q o_V r5 ++ wMC cI ad o_C ++ wMT cI ad o_T ++ wMV cI ad o_V ++ wMI cI ad r5) [] ⟨hx, hb, hml, hown, hts⟩ (c_Model_item l D cI sd ad o_C o_X o_L o_N o_T o_U o_O o_E o_Q o_V o_I 7 (o_T.2.2.2.2.2.2.2.2 a1.toNatClampNeg) r5 hcr5) (cwV2 hts q1512 mvX8_item rfl rfl ⟨(Nat.le_of_ble_eq_true rfl), (Nat.le_of_ble_eq_true rfl)⟩) hK hE hA hP hD hS 0 (T := TX8) (N := 48) (ci := 8) rfl rfl [0, 13, 14] rfl (by decide) rfl rfl rfl rfl rfl rfl hl.1 (Nat.le_of_ble_eq_true rfl) dX8_openParts_28 ⟨Nat.zero_le _, Nat.zero_le _⟩ (fun H locs hP hD hS => ?_)
    refine lv_aload_n hx hb dX8_openParts_31 rfl (lv_at hl 1 rfl) ?_
    refine lv_iconst (v := 1) hx hb dX8_openParts_32 (by decide) ?_
    refine lv_iload_n hx hb dX8_openParts_33 rfl (lv_at hl 2 rfl) ?_
    obtain ⟨r6, hcr6, hM⟩ := ob_use hM
    refine cl_V (As := [.int 1, .int a1]) (rest := []) (wM0 ad o_X o_L o_N o_T o_U o_O o_E o_Q o_V r6 ++ wMC cI ad o_C ++ wMT cI ad o_T ++ wMV cI ad o_V ++ wMI cI ad r6) [] ⟨hx, hb, hml, hown, hts⟩ (c_Model_item l D cI sd ad o_C o_X o_L o_N o_T o_U o_O o_E o_Q o_V r5 1 a1 r6 hcr6) (cwV2 hts q1512 mvX8_item rfl rfl ⟨(Nat.le_of_ble_eq_true rfl), (Nat.le_of_ble_eq_true rfl)⟩) hK hE hA hP hD hS 0 (T := TX8) (N := 48) (ci := 8) rfl rfl [0, 13, 14] rfl (by decide) rfl rfl rfl rfl rfl rfl hl.1 (Nat.le_of_ble_eq_true rfl) dX8_openParts_34 ⟨Nat.zero_le _, Nat.zero_le _⟩ (fun H locs hP hD hS => ?_)
    refine lv_aload_n hx hb dX8_openParts_37 rfl (lv_at hl 1 rfl) ?_
    refine lv_iconst (v := 0) hx hb dX8_openParts_38 (by decide) ?_
    refine lv_iload_n hx hb dX8_openParts_39 rfl (lv_at hl 0 rfl) ?_
    refine lv_bipush (v := 6) hx hb dX8_openParts_40 (by decide) ?_
    refine lv_icmp_ne (tgt := 50) hx hb dX8_openParts_42 (by decide) (fun c7 => ?_) (fun c7 => ?_)
    · replace hM := if_f c7 hM
      refine lv_iload_n hx hb dX8_openParts_50 rfl (lv_at hl 0 rfl) ?_
      refine lv_bipush (v := 7) hx hb dX8_openParts_51 (by decide) ?_
      refine lv_icmp_ne (tgt := 61) hx hb dX8_openParts_53 (by decide) (fun c8 => ?_) (fun c8 => ?_)
      · replace hM := if_f c8 hM
        refine lv_iload_n hx hb dX8_openParts_61 rfl (lv_at hl 0 rfl) ?_
        refine lv_bipush (v := 11) hx hb dX8_openParts_62 (by decide) ?_
        refine lv_icmp_ge (tgt := 72) hx hb dX8_openParts_64 (by decide) (fun c9 => ?_) (fun c9 => ?_)
        · replace hM := if_t c9 hM
          refine lv_bipush (v := 50) hx hb dX8_openParts_72 (by decide) ?_
          obtain ⟨r10, hcr10, hM⟩ := ob_use hM
          refine cl_V (As := [.int 0, .int 50]) (rest := []) (wM0 ad o_X o_L o_N o_T o_U o_O o_E o_Q o_V r10 ++ wMC cI ad o_C ++ wMT cI ad o_T ++ wMV cI ad o_V ++ wMI cI ad r10) [] ⟨hx, hb, hml, hown, hts⟩ (c_Model_item l D cI sd ad o_C o_X o_L o_N o_T o_U o_O o_E o_Q o_V r6 0 50 r10 hcr10) (cwV2 hts q1512 mvX8_item rfl rfl ⟨(Nat.le_of_ble_eq_true rfl), (Nat.le_of_ble_eq_true rfl)⟩) hK hE hA hP hD hS 0 (T := TX8) (N := 48) (ci := 8) rfl rfl [0, 13, 14] rfl (by decide) rfl rfl rfl rfl rfl rfl hl.1 (Nat.le_of_ble_eq_true rfl) dX8_openParts_74 ⟨Nat.zero_le _, Nat.zero_le _⟩ (fun H locs hP hD hS => ?_)
          cases hM
          exact rt_v hx hb hr hlk hP hD hS rfl dX8_openParts_77
        · replace hM := if_f c9 hM
          refine lv_bipush (v := 61) hx hb dX8_openParts_67 (by decide) ?_
          refine lv_goto (tgt := 74) hx hb dX8_openParts_69 (by decide) ?_
          obtain ⟨r11, hcr11, hM⟩ := ob_use hM
          refine cl_V (As := [.int 0, .int 61]) (rest := []) (wM0 ad o_X o_L o_N o_T o_U o_O o_E o_Q o_V r11 ++ wMC cI ad o_C ++ wMT cI ad o_T ++ wMV cI ad o_V ++ wMI cI ad r11) [] ⟨hx, hb, hml, hown, hts⟩ (c_Model_item l D cI sd ad o_C o_X o_L o_N o_T o_U o_O o_E o_Q o_V r6 0 61 r11 hcr11) (cwV2 hts q1512 mvX8_item rfl rfl ⟨(Nat.le_of_ble_eq_true rfl), (Nat.le_of_ble_eq_true rfl)⟩) hK hE hA hP hD hS 0 (T := TX8) (N := 48) (ci := 8) rfl rfl [0, 13, 14] rfl (by decide) rfl rfl rfl rfl rfl rfl hl.1 (Nat.le_of_ble_eq_true rfl) dX8_openParts_74 ⟨Nat.zero_le _, Nat.zero_le _⟩ (fun H locs hP hD hS => ?_)
          cases hM
          exact rt_v hx hb hr hlk hP hD hS rfl dX8_openParts_77
      · replace hM := if_t c8 hM
        refine lv_bipush (v := 10) hx hb dX8_openParts_56 (by decide) ?_
        refine lv_goto (tgt := 74) hx hb dX8_openParts_58 (by decide) ?_
        obtain ⟨r12, hcr12, hM⟩ := ob_use hM
        refine cl_V (As := [.int 0, .int 10]) (rest := []) (wM0 ad o_X o_L o_N o_T o_U o_O o_E o_Q o_V r12 ++ wMC cI ad o_C ++ wMT cI ad o_T ++ wMV cI ad o_V ++ wMI cI ad r12) [] ⟨hx, hb, hml, hown, hts⟩ (c_Model_item l D cI sd ad o_C o_X o_L o_N o_T o_U o_O o_E o_Q o_V r6 0 10 r12 hcr12) (cwV2 hts q1512 mvX8_item rfl rfl ⟨(Nat.le_of_ble_eq_true rfl), (Nat.le_of_ble_eq_true rfl)⟩) hK hE hA hP hD hS 0 (T := TX8) (N := 48) (ci := 8) rfl rfl [0, 13, 14] rfl (by decide) rfl rfl rfl rfl rfl rfl hl.1 (Nat.le_of_ble_eq_true rfl) dX8_openParts_74 ⟨Nat.zero_le _, Nat.zero_le _⟩ (fun H locs hP hD hS => ?_)
        cases hM
        exact rt_v hx hb hr hlk hP hD hS rfl dX8_openParts_77
    · replace hM := if_t c7 hM
      refine lv_bipush (v := 59) hx hb dX8_openParts_45 (by decide) ?_
      refine lv_goto (tgt := 74) hx hb dX8_openParts_47 (by decide) ?_
      obtain ⟨r13, hcr13, hM⟩ := ob_use hM
      refine cl_V (As := [.int 0, .int 59]) (rest := []) (wM0 ad o_X o_L o_N o_T o_U o_O o_E o_Q o_V r13 ++ wMC cI ad o_C ++ wMT cI ad o_T ++ wMV cI ad o_V ++ wMI cI ad r13) [] ⟨hx, hb, hml, hown, hts⟩ (c_Model_item l D cI sd ad o_C o_X o_L o_N o_T o_U o_O o_E o_Q o_V r6 0 59 r13 hcr13) (cwV2 hts q1512 mvX8_item rfl rfl ⟨(Nat.le_of_ble_eq_true rfl), (Nat.le_of_ble_eq_true rfl)⟩) hK hE hA hP hD hS 0 (T := TX8) (N := 48) (ci := 8) rfl rfl [0, 13, 14] rfl (by decide) rfl rfl rfl rfl rfl rfl hl.1 (Nat.le_of_ble_eq_true rfl) dX8_openParts_74 ⟨Nat.zero_le _, Nat.zero_le _⟩ (fun H locs hP hD hS => ?_)
      cases hM
      exact rt_v hx hb hr hlk hP hD hS rfl dX8_openParts_77
  · replace hM := if_t c1 hM
    refine lv_aload_n hx hb dX8_openParts_5 rfl (lv_at hl 0 rfl) ?_
    refine lv_bipush (v := 60) hx hb dX8_openParts_6 (by decide) ?_
    obtain ⟨r14, hcr14, hM⟩ := ob_use hM
    refine cl_V (As := [.int 60]) (rest := []) (wM0 ad o_X o_L o_N o_T o_U o_O o_E o_Q r14 o_I ++ wMC cI ad o_C ++ wMT cI ad o_T ++ wMV cI ad r14 ++ wMI cI ad o_I) [] ⟨hx, hb, hml, hown, hts⟩ (c_Model_putToken l D cI sd ad o_X o_L o_N o_T o_U o_O o_E o_Q o_I o_C o_V 60 r14 hcr14) (cwV2 hts q1520 mvX8_putToken rfl rfl ⟨(Nat.le_of_ble_eq_true rfl), (Nat.le_of_ble_eq_true rfl)⟩) hK hE hA hP hD hS 0 (T := TX8) (N := 48) (ci := 8) rfl rfl [0, 1, 2, 3, 4, 12] rfl (by decide) rfl rfl rfl rfl rfl rfl hl.1 (Nat.le_of_ble_eq_true rfl) dX8_openParts_8 ⟨Nat.zero_le _, Nat.zero_le _⟩ (fun H locs hP hD hS => ?_)
    cases hM
    exact rt_v hx hb hr hlk hP hD hS rfl dX8_openParts_11

set_option maxHeartbeats 4000000 in
set_option maxRecDepth 100000 in
theorem c_Model_openIf (l : Launch) (D : va_G) (cI : ClassId) (sd : Nat → Nat) (ad : Nat → Nat) (o_C : S_MC) (o_X : S_MX) (o_L : S_ML) (o_N : S_MN) (o_U : S_MU) (o_O : S_MO) (o_E : S_ME) (o_Q : S_MQ) (o_V : S_MV) (o_T : S_MT) (o_I : S_MI) (a1 : Int32) (res : S_MI) (hM : f_Model_openIf o_T o_I a1 = some res) : Ctr l D cI sd yX8_openIf (wsM yX8_openIf cX8_openIf 3 (Option.none : Option Jvm.ClassFile.FieldType)) { frames := 1, cells := 0, slots := 0, locals := 22 } [.ref (ad 100), .int a1] (wM0 ad o_X o_L o_N o_T o_U o_O o_E o_Q o_V o_I ++ wMT cI ad o_T ++ wMI cI ad o_I) (wM0 ad o_X o_L o_N o_T o_U o_O o_E o_Q o_V res ++ wMT cI ad o_T ++ wMI cI ad res) none := by
  refine Ctr.of (cc := cX8_openIf) (maxL := 3) (own := RX8) (by decide +kernel) rfl rfl (Nat.le_of_ble_eq_true rfl) ?_
  intro p e s m below meth c A ls hx hb hr hml hown hts hlk hK hE hA hP hD hS hl
  have hl : lv_has ls 3 [(0, .ref (ad 100)), (1, .int a1)] := hl
  unfold f_Model_openIf at hM
  refine lv_aload_n hx hb dX8_openIf_0 rfl (lv_at hl 0 rfl) ?_
  refine va_get (D := D) (ci := 8) (v := .ref (ad 108)) (C := RX8) (T := TX8) (N := 48) hx hb hts layX8 hown hK hP 0 rfl rfl 17 (by decide) (hts _ (inA q995)) (fun _ h9 => h9) rfl dX8_openIf_1 ?_
  refine lv_iload_n hx hb dX8_openIf_4 rfl (lv_at hl 1 rfl) ?_
  obtain ⟨b1, hM⟩ := gd_use hM
  refine va_iald hx hb hK hP 1 0 rfl rfl b1 dX8_openIf_5 ?_
  refine lv_bipush (v := 11) hx hb dX8_openIf_6 (by decide) ?_
  refine lv_icmp_ne (tgt := 25) hx hb dX8_openIf_8 (by decide) (fun c2 => ?_) (fun c2 => ?_)
  · replace hM := if_f c2 hM
    refine lv_aload_n hx hb dX8_openIf_25 rfl (lv_at hl 0 rfl) ?_
    refine va_get (D := D) (ci := 8) (v := .ref (ad 114)) (C := RX8) (T := TX8) (N := 48) hx hb hts layX8 hown hK hP 0 rfl rfl 23 (by decide) (hts _ (inA q1001)) (fun _ h9 => h9) rfl dX8_openIf_26 ?_
    refine lv_iload_n hx hb dX8_openIf_29 rfl (lv_at hl 1 rfl) ?_
    obtain ⟨b3, hM⟩ := gd_use hM
    refine va_iald hx hb hK hP 7 0 rfl rfl b3 dX8_openIf_30 ?_
    refine lv_topi (fun x4 ex4 => ?_)
    replace hM := nm_use ex4 hM
    refine lv_istore_n (lv' := [(2, .int x4), (0, .ref (ad 100)), (1, .int a1)]) hx hb dX8_openIf_31 rfl hl (by decide) rfl (fun ls hl => ?_)
    refine lv_aload_n hx hb dX8_openIf_32 rfl (lv_at hl 1 rfl) ?_
    refine lv_iconst (v := 4) hx hb dX8_openIf_33 (by decide) ?_
    refine lv_aload_n hx hb dX8_openIf_34 rfl (lv_at hl 1 rfl) ?_
    refine va_get (D := D) (ci := 8) (v := .ref (ad 114)) (C := RX8) (T := TX8) (N := 48) hx hb hts layX8 hown hK hP 0 rfl rfl 23 (by decide) (hts _ (inA q1001)) (fun _ h9 => h9) rfl dX8_openIf_35 ?_
    refine lv_iload_n hx hb dX8_openIf_38 rfl (lv_at hl 0 rfl) ?_
    obtain ⟨b5, hM⟩ := gd_use hM
    refine va_iald hx hb hK hP 7 0 rfl rfl b5 dX8_openIf_39 ?_
    obtain ⟨r6, hcr6, hM⟩ := ob_use hM
    refine cl_V (As := [.int 4, .int (o_T.2.2.2.2.2.2.2.2 x4.toNatClampNeg)]) (rest := []) (wM0 ad o_X o_L o_N o_T o_U o_O o_E o_Q o_V r6 ++ wMT cI ad o_T ++ wMI cI ad r6) [] ⟨hx, hb, hml, hown, hts⟩ (c_Model_item l D cI sd ad o_C o_X o_L o_N o_T o_U o_O o_E o_Q o_V o_I 4 (o_T.2.2.2.2.2.2.2.2 x4.toNatClampNeg) r6 hcr6) (cwV2 hts q1512 mvX8_item rfl rfl ⟨(Nat.le_of_ble_eq_true rfl), (Nat.le_of_ble_eq_true rfl)⟩) hK hE hA hP hD hS 0 (T := TX8) (N := 48) (ci := 8) rfl rfl [0, 8, 9] rfl (by decide) rfl rfl rfl rfl rfl rfl hl.1 (Nat.le_of_ble_eq_true rfl) dX8_openIf_40 ⟨Nat.zero_le _, Nat.zero_le _⟩ (fun H locs hP hD hS => ?_)
    refine lv_aload_n hx hb dX8_openIf_43 rfl (lv_at hl 1 rfl) ?_
    refine lv_iconst (v := 1) hx hb dX8_openIf_44 (by decide) ?_
    refine lv_iload_n hx hb dX8_openIf_45 rfl (lv_at hl 0 rfl) ?_
    obtain ⟨r7, hcr7, hM⟩ := ob_use hM
    refine cl_V (As := [.int 1, .int x4]) (rest := []) (wM0 ad o_X o_L o_N o_T o_U o_O o_E o_Q o_V r7 ++ wMT cI ad o_T ++ wMI cI ad r7) [] ⟨hx, hb, hml, hown, hts⟩ (c_Model_item l D cI sd ad o_C o_X o_L o_N o_T o_U o_O o_E o_Q o_V r6 1 x4 r7 hcr7) (cwV2 hts q1512 mvX8_item rfl rfl ⟨(Nat.le_of_ble_eq_true rfl), (Nat.le_of_ble_eq_true rfl)⟩) hK hE hA hP hD hS 0 (T := TX8) (N := 48) (ci := 8) rfl rfl [0, 8, 9] rfl (by decide) rfl rfl rfl rfl rfl rfl hl.1 (Nat.le_of_ble_eq_true rfl) dX8_openIf_46 ⟨Nat.zero_le _, Nat.zero_le _⟩ (fun H locs hP hD hS => ?_)
    refine lv_aload_n hx hb dX8_openIf_49 rfl (lv_at hl 1 rfl) ?_
    refine lv_iconst (v := 0) hx hb dX8_openIf_50 (by decide) ?_
    refine lv_bipush (v := 17) hx hb dX8_openIf_51 (by decide) ?_
    obtain ⟨r8, hcr8, hM⟩ := ob_use hM
    refine cl_V (As := [.int 0, .int 17]) (rest := []) (wM0 ad o_X o_L o_N o_T o_U o_O o_E o_Q o_V r8 ++ wMT cI ad o_T ++ wMI cI ad r8) [] ⟨hx, hb, hml, hown, hts⟩ (c_Model_item l D cI sd ad o_C o_X o_L o_N o_T o_U o_O o_E o_Q o_V r7 0 17 r8 hcr8) (cwV2 hts q1512 mvX8_item rfl rfl ⟨(Nat.le_of_ble_eq_true rfl), (Nat.le_of_ble_eq_true rfl)⟩) hK hE hA hP hD hS 0 (T := TX8) (N := 48) (ci := 8) rfl rfl [0, 8, 9] rfl (by decide) rfl rfl rfl rfl rfl rfl hl.1 (Nat.le_of_ble_eq_true rfl) dX8_openIf_53 ⟨Nat.zero_le _, Nat.zero_le _⟩ (fun H locs hP hD hS => ?_)
    refine lv_aload_n hx hb dX8_openIf_56 rfl (lv_at hl 1 rfl) ?_
    refine lv_iconst (v := 1) hx hb dX8_openIf_57 (by decide) ?_
    refine lv_iload_n hx hb dX8_openIf_58 rfl (lv_at hl 2 rfl) ?_
    obtain ⟨r9, hcr9, hM⟩ := ob_use hM
    refine cl_V (As := [.int 1, .int a1]) (rest := []) (wM0 ad o_X o_L o_N o_T o_U o_O o_E o_Q o_V r9 ++ wMT cI ad o_T ++ wMI cI ad r9) [] ⟨hx, hb, hml, hown, hts⟩ (c_Model_item l D cI sd ad o_C o_X o_L o_N o_T o_U o_O o_E o_Q o_V r8 1 a1 r9 hcr9) (cwV2 hts q1512 mvX8_item rfl rfl ⟨(Nat.le_of_ble_eq_true rfl), (Nat.le_of_ble_eq_true rfl)⟩) hK hE hA hP hD hS 0 (T := TX8) (N := 48) (ci := 8) rfl rfl [0, 8, 9] rfl (by decide) rfl rfl rfl rfl rfl rfl hl.1 (Nat.le_of_ble_eq_true rfl) dX8_openIf_59 ⟨Nat.zero_le _, Nat.zero_le _⟩ (fun H locs hP hD hS => ?_)
    refine lv_aload_n hx hb dX8_openIf_62 rfl (lv_at hl 1 rfl) ?_
    refine lv_iconst (v := 0) hx hb dX8_openIf_63 (by decide) ?_
    refine lv_bipush (v := 18) hx hb dX8_openIf_64 (by decide) ?_
    obtain ⟨r10, hcr10, hM⟩ := ob_use hM
    refine cl_V (As := [.int 0, .int 18]) (rest := []) (wM0 ad o_X o_L o_N o_T o_U o_O o_E o_Q o_V r10 ++ wMT cI ad o_T ++ wMI cI ad r10) [] ⟨hx, hb, hml, hown, hts⟩ (c_Model_item l D cI sd ad o_C o_X o_L o_N o_T o_U o_O o_E o_Q o_V r9 0 18 r10 hcr10) (cwV2 hts q1512 mvX8_item rfl rfl ⟨(Nat.le_of_ble_eq_true rfl), (Nat.le_of_ble_eq_true rfl)⟩) hK hE hA hP hD hS 0 (T := TX8) (N := 48) (ci := 8) rfl rfl [0, 8, 9] rfl (by decide) rfl rfl rfl rfl rfl rfl hl.1 (Nat.le_of_ble_eq_true rfl) dX8_openIf_66 ⟨Nat.zero_le _, Nat.zero_le _⟩ (fun H locs hP hD hS => ?_)
    cases hM
    exact rt_v hx hb hr hlk hP hD hS rfl dX8_openIf_69
  · replace hM := if_t c2 hM
    refine lv_aload_n hx hb dX8_openIf_11 rfl (lv_at hl 0 rfl) ?_
    refine lv_iconst (v := 1) hx hb dX8_openIf_12 (by decide) ?_
    refine lv_iload_n hx hb dX8_openIf_13 rfl (lv_at hl 1 rfl) ?_
    obtain ⟨r11, hcr11, hM⟩ := ob_use hM
    refine cl_V (As := [.int 1, .int a1]) (rest := []) (wM0 ad o_X o_L o_N o_T o_U o_O o_E o_Q o_V r11 ++ wMT cI ad o_T ++ wMI cI ad r11) [] ⟨hx, hb, hml, hown, hts⟩ (c_Model_item l D cI sd ad o_C o_X o_L o_N o_T o_U o_O o_E o_Q o_V o_I 1 a1 r11 hcr11) (cwV2 hts q1512 mvX8_item rfl rfl ⟨(Nat.le_of_ble_eq_true rfl), (Nat.le_of_ble_eq_true rfl)⟩) hK hE hA hP hD hS 0 (T := TX8) (N := 48) (ci := 8) rfl rfl [0, 8, 9] rfl (by decide) rfl rfl rfl rfl rfl rfl hl.1 (Nat.le_of_ble_eq_true rfl) dX8_openIf_14 ⟨Nat.zero_le _, Nat.zero_le _⟩ (fun H locs hP hD hS => ?_)
    refine lv_aload_n hx hb dX8_openIf_17 rfl (lv_at hl 0 rfl) ?_
    refine lv_iconst (v := 0) hx hb dX8_openIf_18 (by decide) ?_
    refine lv_bipush (v := 19) hx hb dX8_openIf_19 (by decide) ?_
    obtain ⟨r12, hcr12, hM⟩ := ob_use hM
    refine cl_V (As := [.int 0, .int 19]) (rest := []) (wM0 ad o_X o_L o_N o_T o_U o_O o_E o_Q o_V r12 ++ wMT cI ad o_T ++ wMI cI ad r12) [] ⟨hx, hb, hml, hown, hts⟩ (c_Model_item l D cI sd ad o_C o_X o_L o_N o_T o_U o_O o_E o_Q o_V r11 0 19 r12 hcr12) (cwV2 hts q1512 mvX8_item rfl rfl ⟨(Nat.le_of_ble_eq_true rfl), (Nat.le_of_ble_eq_true rfl)⟩) hK hE hA hP hD hS 0 (T := TX8) (N := 48) (ci := 8) rfl rfl [0, 8, 9] rfl (by decide) rfl rfl rfl rfl rfl rfl hl.1 (Nat.le_of_ble_eq_true rfl) dX8_openIf_21 ⟨Nat.zero_le _, Nat.zero_le _⟩ (fun H locs hP hD hS => ?_)
    cases hM
    exact rt_v hx hb hr hlk hP hD hS rfl dX8_openIf_24

set_option maxHeartbeats 4000000 in
set_option maxRecDepth 100000 in
theorem c_Model_openCase (l : Launch) (D : va_G) (cI : ClassId) (sd : Nat → Nat) (ad : Nat → Nat) (o_C : S_MC) (o_X : S_MX) (o_L : S_ML) (o_N : S_MN) (o_U : S_MU) (o_O : S_MO) (o_E : S_ME) (o_Q : S_MQ) (o_V : S_MV) (o_T : S_MT) (o_I : S_MI) (a1 : Int32) (res : S_MI) (hM : f_Model_openCase o_T o_I a1 = some res) : Ctr l D cI sd yX8_openCase (wsM yX8_openCase cX8_openCase 2 (Option.none : Option Jvm.ClassFile.FieldType)) { frames := 1, cells := 0, slots := 0, locals := 22 } [.ref (ad 100), .int a1] (wM0 ad o_X o_L o_N o_T o_U o_O o_E o_Q o_V o_I ++ wMT cI ad o_T ++ wMI cI ad o_I) (wM0 ad o_X o_L o_N o_T o_U o_O o_E o_Q o_V res ++ wMT cI ad o_T ++ wMI cI ad res) none := by
  refine Ctr.of (cc := cX8_openCase) (maxL := 2) (own := RX8) (by decide +kernel) rfl rfl (Nat.le_of_ble_eq_true rfl) ?_
  intro p e s m below meth c A ls hx hb hr hml hown hts hlk hK hE hA hP hD hS hl
  have hl : lv_has ls 2 [(0, .ref (ad 100)), (1, .int a1)] := hl
  unfold f_Model_openCase at hM
  refine lv_aload_n hx hb dX8_openCase_0 rfl (lv_at hl 0 rfl) ?_
  refine va_get (D := D) (ci := 8) (v := .ref (ad 108)) (C := RX8) (T := TX8) (N := 48) hx hb hts layX8 hown hK hP 0 rfl rfl 17 (by decide) (hts _ (inA q995)) (fun _ h9 => h9) rfl dX8_openCase_1 ?_
  refine lv_iload_n hx hb dX8_openCase_4 rfl (lv_at hl 1 rfl) ?_
  obtain ⟨b1, hM⟩ := gd_use hM
  refine va_iald hx hb hK hP 1 0 rfl rfl b1 dX8_openCase_5 ?_
  refine lv_bipush (v := 11) hx hb dX8_openCase_6 (by decide) ?_
  refine lv_icmp_ne (tgt := 25) hx hb dX8_openCase_8 (by decide) (fun c2 => ?_) (fun c2 => ?_)
  · replace hM := if_f c2 hM
    refine lv_aload_n hx hb dX8_openCase_25 rfl (lv_at hl 0 rfl) ?_
    refine lv_iconst (v := 5) hx hb dX8_openCase_26 (by decide) ?_
    refine lv_aload_n hx hb dX8_openCase_27 rfl (lv_at hl 0 rfl) ?_
    refine va_get (D := D) (ci := 8) (v := .ref (ad 114)) (C := RX8) (T := TX8) (N := 48) hx hb hts layX8 hown hK hP 0 rfl rfl 23 (by decide) (hts _ (inA q1001)) (fun _ h9 => h9) rfl dX8_openCase_28 ?_
    refine lv_iload_n hx hb dX8_openCase_31 rfl (lv_at hl 1 rfl) ?_
    obtain ⟨b3, hM⟩ := gd_use hM
    refine va_iald hx hb hK hP 7 0 rfl rfl b3 dX8_openCase_32 ?_
    obtain ⟨r4, hcr4, hM⟩ := ob_use hM
    refine cl_V (As := [.int 5, .int (o_T.2.2.2.2.2.2.2.2 a1.toNatClampNeg)]) (rest := []) (wM0 ad o_X o_L o_N o_T o_U o_O o_E o_Q o_V r4 ++ wMT cI ad o_T ++ wMI cI ad r4) [] ⟨hx, hb, hml, hown, hts⟩ (c_Model_item l D cI sd ad o_C o_X o_L o_N o_T o_U o_O o_E o_Q o_V o_I 5 (o_T.2.2.2.2.2.2.2.2 a1.toNatClampNeg) r4 hcr4) (cwV2 hts q1512 mvX8_item rfl rfl ⟨(Nat.le_of_ble_eq_true rfl), (Nat.le_of_ble_eq_true rfl)⟩) hK hE hA hP hD hS 0 (T := TX8) (N := 48) (ci := 8) rfl rfl [0, 8, 9] rfl (by decide) rfl rfl rfl rfl rfl rfl hl.1 (Nat.le_of_ble_eq_true rfl) dX8_openCase_33 ⟨Nat.zero_le _, Nat.zero_le _⟩ (fun H locs hP hD hS => ?_)
    refine lv_aload_n hx hb dX8_openCase_36 rfl (lv_at hl 0 rfl) ?_
    refine lv_iconst (v := 1) hx hb dX8_openCase_37 (by decide) ?_
    refine lv_iload_n hx hb dX8_openCase_38 rfl (lv_at hl 1 rfl) ?_
    obtain ⟨r5, hcr5, hM⟩ := ob_use hM
    refine cl_V (As := [.int 1, .int a1]) (rest := []) (wM0 ad o_X o_L o_N o_T o_U o_O o_E o_Q o_V r5 ++ wMT cI ad o_T ++ wMI cI ad r5) [] ⟨hx, hb, hml, hown, hts⟩ (c_Model_item l D cI sd ad o_C o_X o_L o_N o_T o_U o_O o_E o_Q o_V r4 1 a1 r5 hcr5) (cwV2 hts q1512 mvX8_item rfl rfl ⟨(Nat.le_of_ble_eq_true rfl), (Nat.le_of_ble_eq_true rfl)⟩) hK hE hA hP hD hS 0 (T := TX8) (N := 48) (ci := 8) rfl rfl [0, 8, 9] rfl (by decide) rfl rfl rfl rfl rfl rfl hl.1 (Nat.le_of_ble_eq_true rfl) dX8_openCase_39 ⟨Nat.zero_le _, Nat.zero_le _⟩ (fun H locs hP hD hS => ?_)
    cases hM
    exact rt_v hx hb hr hlk hP hD hS rfl dX8_openCase_42
  · replace hM := if_t c2 hM
    refine lv_aload_n hx hb dX8_openCase_11 rfl (lv_at hl 0 rfl) ?_
    refine lv_iconst (v := 1) hx hb dX8_openCase_12 (by decide) ?_
    refine lv_iload_n hx hb dX8_openCase_13 rfl (lv_at hl 1 rfl) ?_
    obtain ⟨r6, hcr6, hM⟩ := ob_use hM
    refine cl_V (As := [.int 1, .int a1]) (rest := []) (wM0 ad o_X o_L o_N o_T o_U o_O o_E o_Q o_V r6 ++ wMT cI ad o_T ++ wMI cI ad r6) [] ⟨hx, hb, hml, hown, hts⟩ (c_Model_item l D cI sd ad o_C o_X o_L o_N o_T o_U o_O o_E o_Q o_V o_I 1 a1 r6 hcr6) (cwV2 hts q1512 mvX8_item rfl rfl ⟨(Nat.le_of_ble_eq_true rfl), (Nat.le_of_ble_eq_true rfl)⟩) hK hE hA hP hD hS 0 (T := TX8) (N := 48) (ci := 8) rfl rfl [0, 8, 9] rfl (by decide) rfl rfl rfl rfl rfl rfl hl.1 (Nat.le_of_ble_eq_true rfl) dX8_openCase_14 ⟨Nat.zero_le _, Nat.zero_le _⟩ (fun H locs hP hD hS => ?_)
    refine lv_aload_n hx hb dX8_openCase_17 rfl (lv_at hl 0 rfl) ?_
    refine lv_iconst (v := 0) hx hb dX8_openCase_18 (by decide) ?_
    refine lv_bipush (v := 19) hx hb dX8_openCase_19 (by decide) ?_
    obtain ⟨r7, hcr7, hM⟩ := ob_use hM
    refine cl_V (As := [.int 0, .int 19]) (rest := []) (wM0 ad o_X o_L o_N o_T o_U o_O o_E o_Q o_V r7 ++ wMT cI ad o_T ++ wMI cI ad r7) [] ⟨hx, hb, hml, hown, hts⟩ (c_Model_item l D cI sd ad o_C o_X o_L o_N o_T o_U o_O o_E o_Q o_V r6 0 19 r7 hcr7) (cwV2 hts q1512 mvX8_item rfl rfl ⟨(Nat.le_of_ble_eq_true rfl), (Nat.le_of_ble_eq_true rfl)⟩) hK hE hA hP hD hS 0 (T := TX8) (N := 48) (ci := 8) rfl rfl [0, 8, 9] rfl (by decide) rfl rfl rfl rfl rfl rfl hl.1 (Nat.le_of_ble_eq_true rfl) dX8_openCase_21 ⟨Nat.zero_le _, Nat.zero_le _⟩ (fun H locs hP hD hS => ?_)
    cases hM
    exact rt_v hx hb hr hlk hP hD hS rfl dX8_openCase_24

set_option maxHeartbeats 4000000 in
set_option maxRecDepth 100000 in
theorem c_Model_openRow (l : Launch) (D : va_G) (cI : ClassId) (sd : Nat → Nat) (ad : Nat → Nat) (o_C : S_MC) (o_X : S_MX) (o_L : S_ML) (o_N : S_MN) (o_U : S_MU) (o_O : S_MO) (o_E : S_ME) (o_Q : S_MQ) (o_V : S_MV) (o_T : S_MT) (o_I : S_MI) (a1 : Int32) (a2 : Int32) (res : S_MI) (hM : f_Model_openRow o_T o_I a1 a2 = some res) : Ctr l D cI sd yX8_openRow (wsM yX8_openRow cX8_openRow 4 (Option.none : Option Jvm.ClassFile.FieldType)) { frames := 1, cells := 0, slots := 0, locals := 22 } [.ref (ad 100), .int a1, .int a2] (wM0 ad o_X o_L o_N o_T o_U o_O o_E o_Q o_V o_I ++ wMT cI ad o_T ++ wMI cI ad o_I) (wM0 ad o_X o_L o_N o_T o_U o_O o_E o_Q o_V res ++ wMT cI ad o_T ++ wMI cI ad res) none := by
  refine Ctr.of (cc := cX8_openRow) (maxL := 4) (own := RX8) (by decide +kernel) rfl rfl (Nat.le_of_ble_eq_true rfl) ?_
  intro p e s m below meth c A ls hx hb hr hml hown hts hlk hK hE hA hP hD hS hl
  have hl : lv_has ls 4 [(0, .ref (ad 100)), (1, .int a1), (2, .int a2)] := hl
  unfold f_Model_openRow at hM
  refine lv_aload_n hx hb dX8_openRow_0 rfl (lv_at hl 0 rfl) ?_
  refine va_get (D := D) (ci := 8) (v := .ref (ad 114)) (C := RX8) (T := TX8) (N := 48) hx hb hts layX8 hown hK hP 0 rfl rfl 23 (by decide) (hts _ (inA q1001)) (fun _ h9 => h9) rfl dX8_openRow_1 ?_
  refine lv_iload_n hx hb dX8_openRow_4 rfl (lv_at hl 2 rfl) ?_
  obtain ⟨b1, hM⟩ := gd_use hM
  refine va_iald hx hb hK hP 7 0 rfl rfl b1 dX8_openRow_5 ?_
  refine lv_topi (fun x2 ex2 => ?_)
  replace hM := nm_use ex2 hM
  refine lv_istore_n (lv' := [(3, .int x2), (0, .ref (ad 100)), (1, .int a1), (2, .int a2)]) hx hb dX8_openRow_6 rfl hl (by decide) rfl (fun ls hl => ?_)
  refine lv_iload_n hx hb dX8_openRow_7 rfl (lv_at hl 0 rfl) ?_
  refine lv_iconst (v := (-1)) hx hb dX8_openRow_8 (by decide) ?_
  refine lv_icmp_eq (tgt := 26) hx hb dX8_openRow_9 (by decide) (fun c3 => ?_) (fun c3 => ?_)
  · replace hM := if_t c3 hM
    refine lv_iload_n hx hb dX8_openRow_26 rfl (lv_at hl 0 rfl) ?_
    refine lv_iconst (v := (-1)) hx hb dX8_openRow_27 (by decide) ?_
    refine lv_icmp_eq (tgt := 64) hx hb dX8_openRow_28 (by decide) (fun c4 => ?_) (fun c4 => ?_)
    · replace hM := if_t c4 hM
      refine lv_iload_n hx hb dX8_openRow_64 rfl (lv_at hl 0 rfl) ?_
      refine lv_iconst (v := (-1)) hx hb dX8_openRow_65 (by decide) ?_
      refine lv_icmp_eq (tgt := 82) hx hb dX8_openRow_66 (by decide) (fun c5 => ?_) (fun c5 => ?_)
      · replace hM := if_t c5 hM
        refine lv_aload_n hx hb dX8_openRow_82 rfl (lv_at hl 1 rfl) ?_
        refine lv_iconst (v := 1) hx hb dX8_openRow_83 (by decide) ?_
        refine lv_iload_n hx hb dX8_openRow_84 rfl (lv_at hl 3 rfl) ?_
        obtain ⟨r6, hcr6, hM⟩ := ob_use hM
        refine cl_V (As := [.int 1, .int a2]) (rest := []) (wM0 ad o_X o_L o_N o_T o_U o_O o_E o_Q o_V r6 ++ wMT cI ad o_T ++ wMI cI ad r6) [] ⟨hx, hb, hml, hown, hts⟩ (c_Model_item l D cI sd ad o_C o_X o_L o_N o_T o_U o_O o_E o_Q o_V o_I 1 a2 r6 hcr6) (cwV2 hts q1512 mvX8_item rfl rfl ⟨(Nat.le_of_ble_eq_true rfl), (Nat.le_of_ble_eq_true rfl)⟩) hK hE hA hP hD hS 0 (T := TX8) (N := 48) (ci := 8) rfl rfl [0, 8, 9] rfl (by decide) rfl rfl rfl rfl rfl rfl hl.1 (Nat.le_of_ble_eq_true rfl) dX8_openRow_85 ⟨Nat.zero_le _, Nat.zero_le _⟩ (fun H locs hP hD hS => ?_)
        cases hM
        exact rt_v hx hb hr hlk hP hD hS rfl dX8_openRow_88
      · replace hM := if_f c5 hM
        refine lv_aload_n hx hb dX8_openRow_69 rfl (lv_at hl 1 rfl) ?_
        refine lv_iload_n hx hb dX8_openRow_70 rfl (lv_at hl 2 rfl) ?_
        refine lv_iload_n hx hb dX8_openRow_71 rfl (lv_at hl 0 rfl) ?_
        obtain ⟨r7, hcr7, hM⟩ := ob_use hM
        refine cl_V (As := [.int a1, .int x2]) (rest := []) (wM0 ad o_X o_L o_N o_T o_U o_O o_E o_Q o_V r7 ++ wMT cI ad o_T ++ wMI cI ad r7) [] ⟨hx, hb, hml, hown, hts⟩ (c_Model_item l D cI sd ad o_C o_X o_L o_N o_T o_U o_O o_E o_Q o_V o_I a1 x2 r7 hcr7) (cwV2 hts q1512 mvX8_item rfl rfl ⟨(Nat.le_of_ble_eq_true rfl), (Nat.le_of_ble_eq_true rfl)⟩) hK hE hA hP hD hS 0 (T := TX8) (N := 48) (ci := 8) rfl rfl [0, 8, 9] rfl (by decide) rfl rfl rfl rfl rfl rfl hl.1 (Nat.le_of_ble_eq_true rfl) dX8_openRow_72 ⟨Nat.zero_le _, Nat.zero_le _⟩ (fun H locs hP hD hS => ?_)
        refine lv_aload_n hx hb dX8_openRow_75 rfl (lv_at hl 1 rfl) ?_
        refine lv_iconst (v := 0) hx hb dX8_openRow_76 (by decide) ?_
        refine lv_bipush (v := 59) hx hb dX8_openRow_77 (by decide) ?_
        obtain ⟨r8, hcr8, hM⟩ := ob_use hM
        refine cl_V (As := [.int 0, .int 59]) (rest := []) (wM0 ad o_X o_L o_N o_T o_U o_O o_E o_Q o_V r8 ++ wMT cI ad o_T ++ wMI cI ad r8) [] ⟨hx, hb, hml, hown, hts⟩ (c_Model_item l D cI sd ad o_C o_X o_L o_N o_T o_U o_O o_E o_Q o_V r7 0 59 r8 hcr8) (cwV2 hts q1512 mvX8_item rfl rfl ⟨(Nat.le_of_ble_eq_true rfl), (Nat.le_of_ble_eq_true rfl)⟩) hK hE hA hP hD hS 0 (T := TX8) (N := 48) (ci := 8) rfl rfl [0, 8, 9] rfl (by decide) rfl rfl rfl rfl rfl rfl hl.1 (Nat.le_of_ble_eq_true rfl) dX8_openRow_79 ⟨Nat.zero_le _, Nat.zero_le _⟩ (fun H locs hP hD hS => ?_)
        refine lv_aload_n hx hb dX8_openRow_82 rfl (lv_at hl 1 rfl) ?_
        refine lv_iconst (v := 1) hx hb dX8_openRow_83 (by decide) ?_
        refine lv_iload_n hx hb dX8_openRow_84 rfl (lv_at hl 3 rfl) ?_
        obtain ⟨r9, hcr9, hM⟩ := ob_use hM
        refine cl_V (As := [.int 1, .int a2]) (rest := []) (wM0 ad o_X o_L o_N o_T o_U o_O o_E o_Q o_V r9 ++ wMT cI ad o_T ++ wMI cI ad r9) [] ⟨hx, hb, hml, hown, hts⟩ (c_Model_item l D cI sd ad o_C o_X o_L o_N o_T o_U o_O o_E o_Q o_V r8 1 a2 r9 hcr9) (cwV2 hts q1512 mvX8_item rfl rfl ⟨(Nat.le_of_ble_eq_true rfl), (Nat.le_of_ble_eq_true rfl)⟩) hK hE hA hP hD hS 0 (T := TX8) (N := 48) (ci := 8) rfl rfl [0, 8, 9] rfl (by decide) rfl rfl rfl rfl rfl rfl hl.1 (Nat.le_of_ble_eq_true rfl) dX8_openRow_85 ⟨Nat.zero_le _, Nat.zero_le _⟩ (fun H locs hP hD hS => ?_)
        cases hM
        exact rt_v hx hb hr hlk hP hD hS rfl dX8_openRow_88
    · replace hM := if_f c4 hM
      refine lv_iload_n hx hb dX8_openRow_31 rfl (lv_at hl 2 rfl) ?_
      refine lv_bipush (v := 6) hx hb dX8_openRow_32 (by decide) ?_
      refine lv_icmp_ne (tgt := 64) hx hb dX8_openRow_34 (by decide) (fun c10 => ?_) (fun c10 => ?_)
      · replace hM := if_f c10 hM
        refine lv_iload_n hx hb dX8_openRow_64 rfl (lv_at hl 0 rfl) ?_
        refine lv_iconst (v := (-1)) hx hb dX8_openRow_65 (by decide) ?_
        refine lv_icmp_eq (tgt := 82) hx hb dX8_openRow_66 (by decide) (fun c11 => ?_) (fun c11 => ?_)
        · replace hM := if_t c11 hM
          refine lv_aload_n hx hb dX8_openRow_82 rfl (lv_at hl 1 rfl) ?_
          refine lv_iconst (v := 1) hx hb dX8_openRow_83 (by decide) ?_
          refine lv_iload_n hx hb dX8_openRow_84 rfl (lv_at hl 3 rfl) ?_
          obtain ⟨r12, hcr12, hM⟩ := ob_use hM
          refine cl_V (As := [.int 1, .int a2]) (rest := []) (wM0 ad o_X o_L o_N o_T o_U o_O o_E o_Q o_V r12 ++ wMT cI ad o_T ++ wMI cI ad r12) [] ⟨hx, hb, hml, hown, hts⟩ (c_Model_item l D cI sd ad o_C o_X o_L o_N o_T o_U o_O o_E o_Q o_V o_I 1 a2 r12 hcr12) (cwV2 hts q1512 mvX8_item rfl rfl ⟨(Nat.le_of_ble_eq_true rfl), (Nat.le_of_ble_eq_true rfl)⟩) hK hE hA hP hD hS 0 (T := TX8) (N := 48) (ci := 8) rfl rfl [0, 8, 9] rfl (by decide) rfl rfl rfl rfl rfl rfl hl.1 (Nat.le_of_ble_eq_true rfl) dX8_openRow_85 ⟨Nat.zero_le _, Nat.zero_le _⟩ (fun H locs hP hD hS => ?_)
          cases hM
          exact rt_v hx hb hr hlk hP hD hS rfl dX8_openRow_88
        · replace hM := if_f c11 hM
          refine lv_aload_n hx hb dX8_openRow_69 rfl (lv_at hl 1 rfl) ?_
          refine lv_iload_n hx hb dX8_openRow_70 rfl (lv_at hl 2 rfl) ?_
          refine lv_iload_n hx hb dX8_openRow_71 rfl (lv_at hl 0 rfl) ?_
          obtain ⟨r13, hcr13, hM⟩ := ob_use hM
          refine cl_V (As := [.int a1, .int x2]) (rest := []) (wM0 ad o_X o_L o_N o_T o_U o_O o_E o_Q o_V r13 ++ wMT cI ad o_T ++ wMI cI ad r13) [] ⟨hx, hb, hml, hown, hts⟩ (c_Model_item l D cI sd ad o_C o_X o_L o_N o_T o_U o_O o_E o_Q o_V o_I a1 x2 r13 hcr13) (cwV2 hts q1512 mvX8_item rfl rfl ⟨(Nat.le_of_ble_eq_true rfl), (Nat.le_of_ble_eq_true rfl)⟩) hK hE hA hP hD hS 0 (T := TX8) (N := 48) (ci := 8) rfl rfl [0, 8, 9] rfl (by decide) rfl rfl rfl rfl rfl rfl hl.1 (Nat.le_of_ble_eq_true rfl) dX8_openRow_72 ⟨Nat.zero_le _, Nat.zero_le _⟩ (fun H locs hP hD hS => ?_)
          refine lv_aload_n hx hb dX8_openRow_75 rfl (lv_at hl 1 rfl) ?_
          refine lv_iconst (v := 0) hx hb dX8_openRow_76 (by decide) ?_
          refine lv_bipush (v := 59) hx hb dX8_openRow_77 (by decide) ?_
          obtain ⟨r14, hcr14, hM⟩ := ob_use hM
          refine cl_V (As := [.int 0, .int 59]) (rest := []) (wM0 ad o_X o_L o_N o_T o_U o_O o_E o_Q o_V r14 ++ wMT cI ad o_T ++ wMI cI ad r14) [] ⟨hx, hb, hml, hown, hts⟩ (c_Model_item l D cI sd ad o_C o_X o_L o_N o_T o_U o_O o_E o_Q o_V r13 0 59 r14 hcr14) (cwV2 hts q1512 mvX8_item rfl rfl ⟨(Nat.le_of_ble_eq_true rfl), (Nat.le_of_ble_eq_true rfl)⟩) hK hE hA hP hD hS 0 (T := TX8) (N := 48) (ci := 8) rfl rfl [0, 8, 9] rfl (by decide) rfl rfl rfl rfl rfl rfl hl.1 (Nat.le_of_ble_eq_true rfl) dX8_openRow_79 ⟨Nat.zero_le _, Nat.zero_le _⟩ (fun H locs hP hD hS => ?_)
          refine lv_aload_n hx hb dX8_openRow_82 rfl (lv_at hl 1 rfl) ?_
          refine lv_iconst (v := 1) hx hb dX8_openRow_83 (by decide) ?_
          refine lv_iload_n hx hb dX8_openRow_84 rfl (lv_at hl 3 rfl) ?_
          obtain ⟨r15, hcr15, hM⟩ := ob_use hM
          refine cl_V (As := [.int 1, .int a2]) (rest := []) (wM0 ad o_X o_L o_N o_T o_U o_O o_E o_Q o_V r15 ++ wMT cI ad o_T ++ wMI cI ad r15) [] ⟨hx, hb, hml, hown, hts⟩ (c_Model_item l D cI sd ad o_C o_X o_L o_N o_T o_U o_O o_E o_Q o_V r14 1 a2 r15 hcr15) (cwV2 hts q1512 mvX8_item rfl rfl ⟨(Nat.le_of_ble_eq_true rfl), (Nat.le_of_ble_eq_true rfl)⟩) hK hE hA hP hD hS 0 (T := TX8) (N := 48) (ci := 8) rfl rfl [0, 8, 9] rfl (by decide) rfl rfl rfl rfl rfl rfl hl.1 (Nat.le_of_ble_eq_true rfl) dX8_openRow_85 ⟨Nat.zero_le _, Nat.zero_le _⟩ (fun H locs hP hD hS => ?_)
          cases hM
          exact rt_v hx hb hr hlk hP hD hS rfl dX8_openRow_88
      · replace hM := if_t c10 hM
        refine lv_aload_n hx hb dX8_openRow_37 rfl (lv_at hl 1 rfl) ?_
        refine va_get (D := D) (ci := 8) (v := .ref (ad 108)) (C := RX8) (T := TX8) (N := 48) hx hb hts layX8 hown hK hP 0 rfl rfl 17 (by decide) (hts _ (inA q995)) (fun _ h9 => h9) rfl dX8_openRow_38 ?_
        refine lv_iload_n hx hb dX8_openRow_41 rfl (lv_at hl 0 rfl) ?_
        obtain ⟨b16, hM⟩ := gd_use hM
        refine va_iald hx hb hK hP 1 0 rfl rfl b16 dX8_openRow_42 ?_
        refine lv_bipush (v := 11) hx hb dX8_openRow_43 (by decide) ?_
        refine lv_icmp_ne (tgt := 64) hx hb dX8_openRow_45 (by decide) (fun c17 => ?_) (fun c17 => ?_)
        · replace hM := if_f c17 hM
          refine lv_iload_n hx hb dX8_openRow_64 rfl (lv_at hl 0 rfl) ?_
          refine lv_iconst (v := (-1)) hx hb dX8_openRow_65 (by decide) ?_
          refine lv_icmp_eq (tgt := 82) hx hb dX8_openRow_66 (by decide) (fun c18 => ?_) (fun c18 => ?_)
          · replace hM := if_t c18 hM
            refine lv_aload_n hx hb dX8_openRow_82 rfl (lv_at hl 1 rfl) ?_
            refine lv_iconst (v := 1) hx hb dX8_openRow_83 (by decide) ?_
            refine lv_iload_n hx hb dX8_openRow_84 rfl (lv_at hl 3 rfl) ?_
            obtain ⟨r19, hcr19, hM⟩ := ob_use hM
            refine cl_V (As := [.int 1, .int a2]) (rest := []) (wM0 ad o_X o_L o_N o_T o_U o_O o_E o_Q o_V r19 ++ wMT cI ad o_T ++ wMI cI ad r19) [] ⟨hx, hb, hml, hown, hts⟩ (c_Model_item l D cI sd ad o_C o_X o_L o_N o_T o_U o_O o_E o_Q o_V o_I 1 a2 r19 hcr19) (cwV2 hts q1512 mvX8_item rfl rfl ⟨(Nat.le_of_ble_eq_true rfl), (Nat.le_of_ble_eq_true rfl)⟩) hK hE hA hP hD hS 0 (T := TX8) (N := 48) (ci := 8) rfl rfl [0, 8, 9] rfl (by decide) rfl rfl rfl rfl rfl rfl hl.1 (Nat.le_of_ble_eq_true rfl) dX8_openRow_85 ⟨Nat.zero_le _, Nat.zero_le _⟩ (fun H locs hP hD hS => ?_)
            cases hM
            exact rt_v hx hb hr hlk hP hD hS rfl dX8_openRow_88
          · replace hM := if_f c18 hM
            refine lv_aload_n hx hb dX8_openRow_69 rfl (lv_at hl 1 rfl) ?_
            refine lv_iload_n hx hb dX8_openRow_70 rfl (lv_at hl 2 rfl) ?_
            refine lv_iload_n hx hb dX8_openRow_71 rfl (lv_at hl 0 rfl) ?_
            obtain ⟨r20, hcr20, hM⟩ := ob_use hM
            refine cl_V (As := [.int a1, .int x2]) (rest := []) (wM0 ad o_X o_L o_N o_T o_U o_O o_E o_Q o_V r20 ++ wMT cI ad o_T ++ wMI cI ad r20) [] ⟨hx, hb, hml, hown, hts⟩ (c_Model_item l D cI sd ad o_C o_X o_L o_N o_T o_U o_O o_E o_Q o_V o_I a1 x2 r20 hcr20) (cwV2 hts q1512 mvX8_item rfl rfl ⟨(Nat.le_of_ble_eq_true rfl), (Nat.le_of_ble_eq_true rfl)⟩) hK hE hA hP hD hS 0 (T := TX8) (N := 48) (ci := 8) rfl rfl [0, 8, 9] rfl (by decide) rfl rfl rfl rfl rfl rfl hl.1 (Nat.le_of_ble_eq_true rfl) dX8_openRow_72 ⟨Nat.zero_le _, Nat.zero_le _⟩ (fun H locs hP hD hS => ?_)
            refine lv_aload_n hx hb dX8_openRow_75 rfl (lv_at hl 1 rfl) ?_
            refine lv_iconst (v := 0) hx hb dX8_openRow_76 (by decide) ?_
            refine lv_bipush (v := 59) hx hb dX8_openRow_77 (by decide) ?_
            obtain ⟨r21, hcr21, hM⟩ := ob_use hM
            refine cl_V (As := [.int 0, .int 59]) (rest := []) (wM0 ad o_X o_L o_N o_T o_U o_O o_E o_Q o_V r21 ++ wMT cI ad o_T ++ wMI cI ad r21) [] ⟨hx, hb, hml, hown, hts⟩ (c_Model_item l D cI sd ad o_C o_X o_L o_N o_T o_U o_O o_E o_Q o_V r20 0 59 r21 hcr21) (cwV2 hts q1512 mvX8_item rfl rfl ⟨(Nat.le_of_ble_eq_true rfl), (Nat.le_of_ble_eq_true rfl)⟩) hK hE hA hP hD hS 0 (T := TX8) (N := 48) (ci := 8) rfl rfl [0, 8, 9] rfl (by decide) rfl rfl rfl rfl rfl rfl hl.1 (Nat.le_of_ble_eq_true rfl) dX8_openRow_79 ⟨Nat.zero_le _, Nat.zero_le _⟩ (fun H locs hP hD hS => ?_)
            refine lv_aload_n hx hb dX8_openRow_82 rfl (lv_at hl 1 rfl) ?_
            refine lv_iconst (v := 1) hx hb dX8_openRow_83 (by decide) ?_
            refine lv_iload_n hx hb dX8_openRow_84 rfl (lv_at hl 3 rfl) ?_
            obtain ⟨r22, hcr22, hM⟩ := ob_use hM
            refine cl_V (As := [.int 1, .int a2]) (rest := []) (wM0 ad o_X o_L o_N o_T o_U o_O o_E o_Q o_V r22 ++ wMT cI ad o_T ++ wMI cI ad r22) [] ⟨hx, hb, hml, hown, hts⟩ (c_Model_item l D cI sd ad o_C o_X o_L o_N o_T o_U o_O o_E o_Q o_V r21 1 a2 r22 hcr22) (cwV2 hts q1512 mvX8_item rfl rfl ⟨(Nat.le_of_ble_eq_true rfl), (Nat.le_of_ble_eq_true rfl)⟩) hK hE hA hP hD hS 0 (T := TX8) (N := 48) (ci := 8) rfl rfl [0, 8, 9] rfl (by decide) rfl rfl rfl rfl rfl rfl hl.1 (Nat.le_of_ble_eq_true rfl) dX8_openRow_85 ⟨Nat.zero_le _, Nat.zero_le _⟩ (fun H locs hP hD hS => ?_)
            cases hM
            exact rt_v hx hb hr hlk hP hD hS rfl dX8_openRow_88
        · replace hM := if_t c17 hM
          refine lv_aload_n hx hb dX8_openRow_48 rfl (lv_at hl 1 rfl) ?_
          refine lv_iconst (v := 1) hx hb dX8_openRow_49 (by decide) ?_
          refine lv_iload_n hx hb dX8_openRow_50 rfl (lv_at hl 0 rfl) ?_
          obtain ⟨r23, hcr23, hM⟩ := ob_use hM
          refine cl_V (As := [.int 1, .int x2]) (rest := []) (wM0 ad o_X o_L o_N o_T o_U o_O o_E o_Q o_V r23 ++ wMT cI ad o_T ++ wMI cI ad r23) [] ⟨hx, hb, hml, hown, hts⟩ (c_Model_item l D cI sd ad o_C o_X o_L o_N o_T o_U o_O o_E o_Q o_V o_I 1 x2 r23 hcr23) (cwV2 hts q1512 mvX8_item rfl rfl ⟨(Nat.le_of_ble_eq_true rfl), (Nat.le_of_ble_eq_true rfl)⟩) hK hE hA hP hD hS 0 (T := TX8) (N := 48) (ci := 8) rfl rfl [0, 8, 9] rfl (by decide) rfl rfl rfl rfl rfl rfl hl.1 (Nat.le_of_ble_eq_true rfl) dX8_openRow_51 ⟨Nat.zero_le _, Nat.zero_le _⟩ (fun H locs hP hD hS => ?_)
          refine lv_aload_n hx hb dX8_openRow_54 rfl (lv_at hl 1 rfl) ?_
          refine lv_iconst (v := 0) hx hb dX8_openRow_55 (by decide) ?_
          refine lv_bipush (v := 61) hx hb dX8_openRow_56 (by decide) ?_
          obtain ⟨r24, hcr24, hM⟩ := ob_use hM
          refine cl_V (As := [.int 0, .int 61]) (rest := []) (wM0 ad o_X o_L o_N o_T o_U o_O o_E o_Q o_V r24 ++ wMT cI ad o_T ++ wMI cI ad r24) [] ⟨hx, hb, hml, hown, hts⟩ (c_Model_item l D cI sd ad o_C o_X o_L o_N o_T o_U o_O o_E o_Q o_V r23 0 61 r24 hcr24) (cwV2 hts q1512 mvX8_item rfl rfl ⟨(Nat.le_of_ble_eq_true rfl), (Nat.le_of_ble_eq_true rfl)⟩) hK hE hA hP hD hS 0 (T := TX8) (N := 48) (ci := 8) rfl rfl [0, 8, 9] rfl (by decide) rfl rfl rfl rfl rfl rfl hl.1 (Nat.le_of_ble_eq_true rfl) dX8_openRow_58 ⟨Nat.zero_le _, Nat.zero_le _⟩ (fun H locs hP hD hS => ?_)
          refine lv_goto (tgt := 82) hx hb dX8_openRow_61 (by decide) ?_
          refine lv_aload_n hx hb dX8_openRow_82 rfl (lv_at hl 1 rfl) ?_
          refine lv_iconst (v := 1) hx hb dX8_openRow_83 (by decide) ?_
          refine lv_iload_n hx hb dX8_openRow_84 rfl (lv_at hl 3 rfl) ?_
          obtain ⟨r25, hcr25, hM⟩ := ob_use hM
          refine cl_V (As := [.int 1, .int a2]) (rest := []) (wM0 ad o_X o_L o_N o_T o_U o_O o_E o_Q o_V r25 ++ wMT cI ad o_T ++ wMI cI ad r25) [] ⟨hx, hb, hml, hown, hts⟩ (c_Model_item l D cI sd ad o_C o_X o_L o_N o_T o_U o_O o_E o_Q o_V r24 1 a2 r25 hcr25) (cwV2 hts q1512 mvX8_item rfl rfl ⟨(Nat.le_of_ble_eq_true rfl), (Nat.le_of_ble_eq_true rfl)⟩) hK hE hA hP hD hS 0 (T := TX8) (N := 48) (ci := 8) rfl rfl [0, 8, 9] rfl (by decide) rfl rfl rfl rfl rfl rfl hl.1 (Nat.le_of_ble_eq_true rfl) dX8_openRow_85 ⟨Nat.zero_le _, Nat.zero_le _⟩ (fun H locs hP hD hS => ?_)
          cases hM
          exact rt_v hx hb hr hlk hP hD hS rfl dX8_openRow_88
  · replace hM := if_f c3 hM
    refine lv_iload_n hx hb dX8_openRow_12 rfl (lv_at hl 2 rfl) ?_
    refine lv_iconst (v := 2) hx hb dX8_openRow_13 (by decide) ?_
    refine lv_icmp_ne (tgt := 26) hx hb dX8_openRow_14 (by decide) (fun c26 => ?_) (fun c26 => ?_)
    · replace hM := if_f c26 hM
      refine lv_iload_n hx hb dX8_openRow_26 rfl (lv_at hl 0 rfl) ?_
      refine lv_iconst (v := (-1)) hx hb dX8_openRow_27 (by decide) ?_
      refine lv_icmp_eq (tgt := 64) hx hb dX8_openRow_28 (by decide) (fun c27 => ?_) (fun c27 => ?_)
      · replace hM := if_t c27 hM
        refine lv_iload_n hx hb dX8_openRow_64 rfl (lv_at hl 0 rfl) ?_
        refine lv_iconst (v := (-1)) hx hb dX8_openRow_65 (by decide) ?_
        refine lv_icmp_eq (tgt := 82) hx hb dX8_openRow_66 (by decide) (fun c28 => ?_) (fun c28 => ?_)
        · replace hM := if_t c28 hM
          refine lv_aload_n hx hb dX8_openRow_82 rfl (lv_at hl 1 rfl) ?_
          refine lv_iconst (v := 1) hx hb dX8_openRow_83 (by decide) ?_
          refine lv_iload_n hx hb dX8_openRow_84 rfl (lv_at hl 3 rfl) ?_
          obtain ⟨r29, hcr29, hM⟩ := ob_use hM
          refine cl_V (As := [.int 1, .int a2]) (rest := []) (wM0 ad o_X o_L o_N o_T o_U o_O o_E o_Q o_V r29 ++ wMT cI ad o_T ++ wMI cI ad r29) [] ⟨hx, hb, hml, hown, hts⟩ (c_Model_item l D cI sd ad o_C o_X o_L o_N o_T o_U o_O o_E o_Q o_V o_I 1 a2 r29 hcr29) (cwV2 hts q1512 mvX8_item rfl rfl ⟨(Nat.le_of_ble_eq_true rfl), (Nat.le_of_ble_eq_true rfl)⟩) hK hE hA hP hD hS 0 (T := TX8) (N := 48) (ci := 8) rfl rfl [0, 8, 9] rfl (by decide) rfl rfl rfl rfl rfl rfl hl.1 (Nat.le_of_ble_eq_true rfl) dX8_openRow_85 ⟨Nat.zero_le _, Nat.zero_le _⟩ (fun H locs hP hD hS => ?_)
          cases hM
          exact rt_v hx hb hr hlk hP hD hS rfl dX8_openRow_88
        · replace hM := if_f c28 hM
          refine lv_aload_n hx hb dX8_openRow_69 rfl (lv_at hl 1 rfl) ?_
          refine lv_iload_n hx hb dX8_openRow_70 rfl (lv_at hl 2 rfl) ?_
          refine lv_iload_n hx hb dX8_openRow_71 rfl (lv_at hl 0 rfl) ?_
          obtain ⟨r30, hcr30, hM⟩ := ob_use hM
          refine cl_V (As := [.int a1, .int x2]) (rest := []) (wM0 ad o_X o_L o_N o_T o_U o_O o_E o_Q o_V r30 ++ wMT cI ad o_T ++ wMI cI ad r30) [] ⟨hx, hb, hml, hown, hts⟩ (c_Model_item l D cI sd ad o_C o_X o_L o_N o_T o_U o_O o_E o_Q o_V o_I a1 x2 r30 hcr30) (cwV2 hts q1512 mvX8_item rfl rfl ⟨(Nat.le_of_ble_eq_true rfl), (Nat.le_of_ble_eq_true rfl)⟩) hK hE hA hP hD hS 0 (T := TX8) (N := 48) (ci := 8) rfl rfl [0, 8, 9] rfl (by decide) rfl rfl rfl rfl rfl rfl hl.1 (Nat.le_of_ble_eq_true rfl) dX8_openRow_72 ⟨Nat.zero_le _, Nat.zero_le _⟩ (fun H locs hP hD hS => ?_)
          refine lv_aload_n hx hb dX8_openRow_75 rfl (lv_at hl 1 rfl) ?_
          refine lv_iconst (v := 0) hx hb dX8_openRow_76 (by decide) ?_
          refine lv_bipush (v := 59) hx hb dX8_openRow_77 (by decide) ?_
          obtain ⟨r31, hcr31, hM⟩ := ob_use hM
          refine cl_V (As := [.int 0, .int 59]) (rest := []) (wM0 ad o_X o_L o_N o_T o_U o_O o_E o_Q o_V r31 ++ wMT cI ad o_T ++ wMI cI ad r31) [] ⟨hx, hb, hml, hown, hts⟩ (c_Model_item l D cI sd ad o_C o_X o_L o_N o_T o_U o_O o_E o_Q o_V r30 0 59 r31 hcr31) (cwV2 hts q1512 mvX8_item rfl rfl ⟨(Nat.le_of_ble_eq_true rfl), (Nat.le_of_ble_eq_true rfl)⟩) hK hE hA hP hD hS 0 (T := TX8) (N := 48) (ci := 8) rfl rfl [0, 8, 9] rfl (by decide) rfl rfl rfl rfl rfl rfl hl.1 (Nat.le_of_ble_eq_true rfl) dX8_openRow_79 ⟨Nat.zero_le _, Nat.zero_le _⟩ (fun H locs hP hD hS => ?_)
          refine lv_aload_n hx hb dX8_openRow_82 rfl (lv_at hl 1 rfl) ?_
          refine lv_iconst (v := 1) hx hb dX8_openRow_83 (by decide) ?_
          refine lv_iload_n hx hb dX8_openRow_84 rfl (lv_at hl 3 rfl) ?_
          obtain ⟨r32, hcr32, hM⟩ := ob_use hM
          refine cl_V (As := [.int 1, .int a2]) (rest := []) (wM0 ad o_X o_L o_N o_T o_U o_O o_E o_Q o_V r32 ++ wMT cI ad o_T ++ wMI cI ad r32) [] ⟨hx, hb, hml, hown, hts⟩ (c_Model_item l D cI sd ad o_C o_X o_L o_N o_T o_U o_O o_E o_Q o_V r31 1 a2 r32 hcr32) (cwV2 hts q1512 mvX8_item rfl rfl ⟨(Nat.le_of_ble_eq_true rfl), (Nat.le_of_ble_eq_true rfl)⟩) hK hE hA hP hD hS 0 (T := TX8) (N := 48) (ci := 8) rfl rfl [0, 8, 9] rfl (by decide) rfl rfl rfl rfl rfl rfl hl.1 (Nat.le_of_ble_eq_true rfl) dX8_openRow_85 ⟨Nat.zero_le _, Nat.zero_le _⟩ (fun H locs hP hD hS => ?_)
          cases hM
          exact rt_v hx hb hr hlk hP hD hS rfl dX8_openRow_88
      · replace hM := if_f c27 hM
        refine lv_iload_n hx hb dX8_openRow_31 rfl (lv_at hl 2 rfl) ?_
        refine lv_bipush (v := 6) hx hb dX8_openRow_32 (by decide) ?_
        refine lv_icmp_ne (tgt := 64) hx hb dX8_openRow_34 (by decide) (fun c33 => ?_) (fun c33 => ?_)
        · replace hM := if_f c33 hM
          refine lv_iload_n hx hb dX8_openRow_64 rfl (lv_at hl 0 rfl) ?_
          refine lv_iconst (v := (-1)) hx hb dX8_openRow_65 (by decide) ?_
          refine lv_icmp_eq (tgt := 82) hx hb dX8_openRow_66 (by decide) (fun c34 => ?_) (fun c34 => ?_)
          · replace hM := if_t c34 hM
            refine lv_aload_n hx hb dX8_openRow_82 rfl (lv_at hl 1 rfl) ?_
            refine lv_iconst (v := 1) hx hb dX8_openRow_83 (by decide) ?_
            refine lv_iload_n hx hb dX8_openRow_84 rfl (lv_at hl 3 rfl) ?_
            obtain ⟨r35, hcr35, hM⟩ := ob_use hM
            refine cl_V (As := [.int 1, .int a2]) (rest := []) (wM0 ad o_X o_L o_N o_T o_U o_O o_E o_Q o_V r35 ++ wMT cI ad o_T ++ wMI cI ad r35) [] ⟨hx, hb, hml, hown, hts⟩ (c_Model_item l D cI sd ad o_C o_X o_L o_N o_T o_U o_O o_E o_Q o_V o_I 1 a2 r35 hcr35) (cwV2 hts q1512 mvX8_item rfl rfl ⟨(Nat.le_of_ble_eq_true rfl), (Nat.le_of_ble_eq_true rfl)⟩) hK hE hA hP hD hS 0 (T := TX8) (N := 48) (ci := 8) rfl rfl [0, 8, 9] rfl (by decide) rfl rfl rfl rfl rfl rfl hl.1 (Nat.le_of_ble_eq_true rfl) dX8_openRow_85 ⟨Nat.zero_le _, Nat.zero_le _⟩ (fun H locs hP hD hS => ?_)
            cases hM
            exact rt_v hx hb hr hlk hP hD hS rfl dX8_openRow_88
          · replace hM := if_f c34 hM
            refine lv_aload_n hx hb dX8_openRow_69 rfl (lv_at hl 1 rfl) ?_
            refine lv_iload_n hx hb dX8_openRow_70 rfl (lv_at hl 2 rfl) ?_
            refine lv_iload_n hx hb dX8_openRow_71 rfl (lv_at hl 0 rfl) ?_
            obtain ⟨r36, hcr36, hM⟩ := ob_use hM
            refine cl_V (As := [.int a1, .int x2]) (rest := []) (wM0 ad o_X o_L o_N o_T o_U o_O o_E o_Q o_V r36 ++ wMT cI ad o_T ++ wMI cI ad r36) [] ⟨hx, hb, hml, hown, hts⟩ (c_Model_item l D cI sd ad o_C o_X o_L o_N o_T o_U o_O o_E o_Q o_V o_I a1 x2 r36 hcr36) (cwV2 hts q1512 mvX8_item rfl rfl ⟨(Nat.le_of_ble_eq_true rfl), (Nat.le_of_ble_eq_true rfl)⟩) hK hE hA hP hD hS 0 (T := TX8) (N := 48) (ci := 8) rfl rfl [0, 8, 9] rfl (by decide) rfl rfl rfl rfl rfl rfl hl.1 (Nat.le_of_ble_eq_true rfl) dX8_openRow_72 ⟨Nat.zero_le _, Nat.zero_le _⟩ (fun H locs hP hD hS => ?_)
            refine lv_aload_n hx hb dX8_openRow_75 rfl (lv_at hl 1 rfl) ?_
            refine lv_iconst (v := 0) hx hb dX8_openRow_76 (by decide) ?_
            refine lv_bipush (v := 59) hx hb dX8_openRow_77 (by decide) ?_
            obtain ⟨r37, hcr37, hM⟩ := ob_use hM
            refine cl_V (As := [.int 0, .int 59]) (rest := []) (wM0 ad o_X o_L o_N o_T o_U o_O o_E o_Q o_V r37 ++ wMT cI ad o_T ++ wMI cI ad r37) [] ⟨hx, hb, hml, hown, hts⟩ (c_Model_item l D cI sd ad o_C o_X o_L o_N o_T o_U o_O o_E o_Q o_V r36 0 59 r37 hcr37) (cwV2 hts q1512 mvX8_item rfl rfl ⟨(Nat.le_of_ble_eq_true rfl), (Nat.le_of_ble_eq_true rfl)⟩) hK hE hA hP hD hS 0 (T := TX8) (N := 48) (ci := 8) rfl rfl [0, 8, 9] rfl (by decide) rfl rfl rfl rfl rfl rfl hl.1 (Nat.le_of_ble_eq_true rfl) dX8_openRow_79 ⟨Nat.zero_le _, Nat.zero_le _⟩ (fun H locs hP hD hS => ?_)
            refine lv_aload_n hx hb dX8_openRow_82 rfl (lv_at hl 1 rfl) ?_
            refine lv_iconst (v := 1) hx hb dX8_openRow_83 (by decide) ?_
            refine lv_iload_n hx hb dX8_openRow_84 rfl (lv_at hl 3 rfl) ?_
            obtain ⟨r38, hcr38, hM⟩ := ob_use hM
            refine cl_V (As := [.int 1, .int a2]) (rest := []) (wM0 ad o_X o_L o_N o_T o_U o_O o_E o_Q o_V r38 ++ wMT cI ad o_T ++ wMI cI ad r38) [] ⟨hx, hb, hml, hown, hts⟩ (c_Model_item l D cI sd ad o_C o_X o_L o_N o_T o_U o_O o_E o_Q o_V r37 1 a2 r38 hcr38) (cwV2 hts q1512 mvX8_item rfl rfl ⟨(Nat.le_of_ble_eq_true rfl), (Nat.le_of_ble_eq_true rfl)⟩) hK hE hA hP hD hS 0 (T := TX8) (N := 48) (ci := 8) rfl rfl [0, 8, 9] rfl (by decide) rfl rfl rfl rfl rfl rfl hl.1 (Nat.le_of_ble_eq_true rfl) dX8_openRow_85 ⟨Nat.zero_le _, Nat.zero_le _⟩ (fun H locs hP hD hS => ?_)
            cases hM
            exact rt_v hx hb hr hlk hP hD hS rfl dX8_openRow_88
        · replace hM := if_t c33 hM
          refine lv_aload_n hx hb dX8_openRow_37 rfl (lv_at hl 1 rfl) ?_
          refine va_get (D := D) (ci := 8) (v := .ref (ad 108)) (C := RX8) (T := TX8) (N := 48) hx hb hts layX8 hown hK hP 0 rfl rfl 17 (by decide) (hts _ (inA q995)) (fun _ h9 => h9) rfl dX8_openRow_38 ?_
          refine lv_iload_n hx hb dX8_openRow_41 rfl (lv_at hl 0 rfl) ?_
          obtain ⟨b39, hM⟩ := gd_use hM
          refine va_iald hx hb hK hP 1 0 rfl rfl b39 dX8_openRow_42 ?_
          refine lv_bipush (v := 11) hx hb dX8_openRow_43 (by decide) ?_
          refine lv_icmp_ne (tgt := 64) hx hb dX8_openRow_45 (by decide) (fun c40 => ?_) (fun c40 => ?_)
          · replace hM := if_f c40 hM
            refine lv_iload_n hx hb dX8_openRow_64 rfl (lv_at hl 0 rfl) ?_
            refine lv_iconst (v := (-1)) hx hb dX8_openRow_65 (by decide) ?_
            refine lv_icmp_eq (tgt := 82) hx hb dX8_openRow_66 (by decide) (fun c41 => ?_) (fun c41 => ?_)
            · replace hM := if_t c41 hM
              refine lv_aload_n hx hb dX8_openRow_82 rfl (lv_at hl 1 rfl) ?_
              refine lv_iconst (v := 1) hx hb dX8_openRow_83 (by decide) ?_
              refine lv_iload_n hx hb dX8_openRow_84 rfl (lv_at hl 3 rfl) ?_
              obtain ⟨r42, hcr42, hM⟩ := ob_use hM
              refine cl_V (As := [.int 1, .int a2]) (rest := []) (wM0 ad o_X o_L o_N o_T o_U o_O o_E o_Q o_V r42 ++ wMT cI ad o_T ++ wMI cI ad r42) [] ⟨hx, hb, hml, hown, hts⟩ (c_Model_item l D cI sd ad o_C o_X o_L o_N o_T o_U o_O o_E o_Q o_V o_I 1 a2 r42 hcr42) (cwV2 hts q1512 mvX8_item rfl rfl ⟨(Nat.le_of_ble_eq_true rfl), (Nat.le_of_ble_eq_true rfl)⟩) hK hE hA hP hD hS 0 (T := TX8) (N := 48) (ci := 8) rfl rfl [0, 8, 9] rfl (by decide) rfl rfl rfl rfl rfl rfl hl.1 (Nat.le_of_ble_eq_true rfl) dX8_openRow_85 ⟨Nat.zero_le _, Nat.zero_le _⟩ (fun H locs hP hD hS => ?_)
              cases hM
              exact rt_v hx hb hr hlk hP hD hS rfl dX8_openRow_88
            · replace hM := if_f c41 hM
              refine lv_aload_n hx hb dX8_openRow_69 rfl (lv_at hl 1 rfl) ?_
              refine lv_iload_n hx hb dX8_openRow_70 rfl (lv_at hl 2 rfl) ?_
              refine lv_iload_n hx hb dX8_openRow_71 rfl (lv_at hl 0 rfl) ?_
              obtain ⟨r43, hcr43, hM⟩ := ob_use hM
              refine cl_V (As := [.int a1, .int x2]) (rest := []) (wM0 ad o_X o_L o_N o_T o_U o_O o_E o_Q o_V r43 ++ wMT cI ad o_T ++ wMI cI ad r43) [] ⟨hx, hb, hml, hown, hts⟩ (c_Model_item l D cI sd ad o_C o_X o_L o_N o_T o_U o_O o_E o_Q o_V o_I a1 x2 r43 hcr43) (cwV2 hts q1512 mvX8_item rfl rfl ⟨(Nat.le_of_ble_eq_true rfl), (Nat.le_of_ble_eq_true rfl)⟩) hK hE hA hP hD hS 0 (T := TX8) (N := 48) (ci := 8) rfl rfl [0, 8, 9] rfl (by decide) rfl rfl rfl rfl rfl rfl hl.1 (Nat.le_of_ble_eq_true rfl) dX8_openRow_72 ⟨Nat.zero_le _, Nat.zero_le _⟩ (fun H locs hP hD hS => ?_)
              refine lv_aload_n hx hb dX8_openRow_75 rfl (lv_at hl 1 rfl) ?_
              refine lv_iconst (v := 0) hx hb dX8_openRow_76 (by decide) ?_
              refine lv_bipush (v := 59) hx hb dX8_openRow_77 (by decide) ?_
              obtain ⟨r44, hcr44, hM⟩ := ob_use hM
              refine cl_V (As := [.int 0, .int 59]) (rest := []) (wM0 ad o_X o_L o_N o_T o_U o_O o_E o_Q o_V r44 ++ wMT cI ad o_T ++ wMI cI ad r44) [] ⟨hx, hb, hml, hown, hts⟩ (c_Model_item l D cI sd ad o_C o_X o_L o_N o_T o_U o_O o_E o_Q o_V r43 0 59 r44 hcr44) (cwV2 hts q1512 mvX8_item rfl rfl ⟨(Nat.le_of_ble_eq_true rfl), (Nat.le_of_ble_eq_true rfl)⟩) hK hE hA hP hD hS 0 (T := TX8) (N := 48) (ci := 8) rfl rfl [0, 8, 9] rfl (by decide) rfl rfl rfl rfl rfl rfl hl.1 (Nat.le_of_ble_eq_true rfl) dX8_openRow_79 ⟨Nat.zero_le _, Nat.zero_le _⟩ (fun H locs hP hD hS => ?_)
              refine lv_aload_n hx hb dX8_openRow_82 rfl (lv_at hl 1 rfl) ?_
              refine lv_iconst (v := 1) hx hb dX8_openRow_83 (by decide) ?_
              refine lv_iload_n hx hb dX8_openRow_84 rfl (lv_at hl 3 rfl) ?_
              obtain ⟨r45, hcr45, hM⟩ := ob_use hM
              refine cl_V (As := [.int 1, .int a2]) (rest := []) (wM0 ad o_X o_L o_N o_T o_U o_O o_E o_Q o_V r45 ++ wMT cI ad o_T ++ wMI cI ad r45) [] ⟨hx, hb, hml, hown, hts⟩ (c_Model_item l D cI sd ad o_C o_X o_L o_N o_T o_U o_O o_E o_Q o_V r44 1 a2 r45 hcr45) (cwV2 hts q1512 mvX8_item rfl rfl ⟨(Nat.le_of_ble_eq_true rfl), (Nat.le_of_ble_eq_true rfl)⟩) hK hE hA hP hD hS 0 (T := TX8) (N := 48) (ci := 8) rfl rfl [0, 8, 9] rfl (by decide) rfl rfl rfl rfl rfl rfl hl.1 (Nat.le_of_ble_eq_true rfl) dX8_openRow_85 ⟨Nat.zero_le _, Nat.zero_le _⟩ (fun H locs hP hD hS => ?_)
              cases hM
              exact rt_v hx hb hr hlk hP hD hS rfl dX8_openRow_88
          · replace hM := if_t c40 hM
            refine lv_aload_n hx hb dX8_openRow_48 rfl (lv_at hl 1 rfl) ?_
            refine lv_iconst (v := 1) hx hb dX8_openRow_49 (by decide) ?_
            refine lv_iload_n hx hb dX8_openRow_50 rfl (lv_at hl 0 rfl) ?_
            obtain ⟨r46, hcr46, hM⟩ := ob_use hM
            refine cl_V (As := [.int 1, .int x2]) (rest := []) (wM0 ad o_X o_L o_N o_T o_U o_O o_E o_Q o_V r46 ++ wMT cI ad o_T ++ wMI cI ad r46) [] ⟨hx, hb, hml, hown, hts⟩ (c_Model_item l D cI sd ad o_C o_X o_L o_N o_T o_U o_O o_E o_Q o_V o_I 1 x2 r46 hcr46) (cwV2 hts q1512 mvX8_item rfl rfl ⟨(Nat.le_of_ble_eq_true rfl), (Nat.le_of_ble_eq_true rfl)⟩) hK hE hA hP hD hS 0 (T := TX8) (N := 48) (ci := 8) rfl rfl [0, 8, 9] rfl (by decide) rfl rfl rfl rfl rfl rfl hl.1 (Nat.le_of_ble_eq_true rfl) dX8_openRow_51 ⟨Nat.zero_le _, Nat.zero_le _⟩ (fun H locs hP hD hS => ?_)
            refine lv_aload_n hx hb dX8_openRow_54 rfl (lv_at hl 1 rfl) ?_
            refine lv_iconst (v := 0) hx hb dX8_openRow_55 (by decide) ?_
            refine lv_bipush (v := 61) hx hb dX8_openRow_56 (by decide) ?_
            obtain ⟨r47, hcr47, hM⟩ := ob_use hM
            refine cl_V (As := [.int 0, .int 61]) (rest := []) (wM0 ad o_X o_L o_N o_T o_U o_O o_E o_Q o_V r47 ++ wMT cI ad o_T ++ wMI cI ad r47) [] ⟨hx, hb, hml, hown, hts⟩ (c_Model_item l D cI sd ad o_C o_X o_L o_N o_T o_U o_O o_E o_Q o_V r46 0 61 r47 hcr47) (cwV2 hts q1512 mvX8_item rfl rfl ⟨(Nat.le_of_ble_eq_true rfl), (Nat.le_of_ble_eq_true rfl)⟩) hK hE hA hP hD hS 0 (T := TX8) (N := 48) (ci := 8) rfl rfl [0, 8, 9] rfl (by decide) rfl rfl rfl rfl rfl rfl hl.1 (Nat.le_of_ble_eq_true rfl) dX8_openRow_58 ⟨Nat.zero_le _, Nat.zero_le _⟩ (fun H locs hP hD hS => ?_)
            refine lv_goto (tgt := 82) hx hb dX8_openRow_61 (by decide) ?_
            refine lv_aload_n hx hb dX8_openRow_82 rfl (lv_at hl 1 rfl) ?_
            refine lv_iconst (v := 1) hx hb dX8_openRow_83 (by decide) ?_
            refine lv_iload_n hx hb dX8_openRow_84 rfl (lv_at hl 3 rfl) ?_
            obtain ⟨r48, hcr48, hM⟩ := ob_use hM
            refine cl_V (As := [.int 1, .int a2]) (rest := []) (wM0 ad o_X o_L o_N o_T o_U o_O o_E o_Q o_V r48 ++ wMT cI ad o_T ++ wMI cI ad r48) [] ⟨hx, hb, hml, hown, hts⟩ (c_Model_item l D cI sd ad o_C o_X o_L o_N o_T o_U o_O o_E o_Q o_V r47 1 a2 r48 hcr48) (cwV2 hts q1512 mvX8_item rfl rfl ⟨(Nat.le_of_ble_eq_true rfl), (Nat.le_of_ble_eq_true rfl)⟩) hK hE hA hP hD hS 0 (T := TX8) (N := 48) (ci := 8) rfl rfl [0, 8, 9] rfl (by decide) rfl rfl rfl rfl rfl rfl hl.1 (Nat.le_of_ble_eq_true rfl) dX8_openRow_85 ⟨Nat.zero_le _, Nat.zero_le _⟩ (fun H locs hP hD hS => ?_)
            cases hM
            exact rt_v hx hb hr hlk hP hD hS rfl dX8_openRow_88
    · replace hM := if_t c26 hM
      refine lv_aload_n hx hb dX8_openRow_17 rfl (lv_at hl 1 rfl) ?_
      refine lv_iconst (v := 2) hx hb dX8_openRow_18 (by decide) ?_
      refine lv_iload_n hx hb dX8_openRow_19 rfl (lv_at hl 0 rfl) ?_
      obtain ⟨r49, hcr49, hM⟩ := ob_use hM
      refine cl_V (As := [.int 2, .int x2]) (rest := []) (wM0 ad o_X o_L o_N o_T o_U o_O o_E o_Q o_V r49 ++ wMT cI ad o_T ++ wMI cI ad r49) [] ⟨hx, hb, hml, hown, hts⟩ (c_Model_item l D cI sd ad o_C o_X o_L o_N o_T o_U o_O o_E o_Q o_V o_I 2 x2 r49 hcr49) (cwV2 hts q1512 mvX8_item rfl rfl ⟨(Nat.le_of_ble_eq_true rfl), (Nat.le_of_ble_eq_true rfl)⟩) hK hE hA hP hD hS 0 (T := TX8) (N := 48) (ci := 8) rfl rfl [0, 8, 9] rfl (by decide) rfl rfl rfl rfl rfl rfl hl.1 (Nat.le_of_ble_eq_true rfl) dX8_openRow_20 ⟨Nat.zero_le _, Nat.zero_le _⟩ (fun H locs hP hD hS => ?_)
      refine lv_goto (tgt := 82) hx hb dX8_openRow_23 (by decide) ?_
      refine lv_aload_n hx hb dX8_openRow_82 rfl (lv_at hl 1 rfl) ?_
      refine lv_iconst (v := 1) hx hb dX8_openRow_83 (by decide) ?_
      refine lv_iload_n hx hb dX8_openRow_84 rfl (lv_at hl 3 rfl) ?_
      obtain ⟨r50, hcr50, hM⟩ := ob_use hM
      refine cl_V (As := [.int 1, .int a2]) (rest := []) (wM0 ad o_X o_L o_N o_T o_U o_O o_E o_Q o_V r50 ++ wMT cI ad o_T ++ wMI cI ad r50) [] ⟨hx, hb, hml, hown, hts⟩ (c_Model_item l D cI sd ad o_C o_X o_L o_N o_T o_U o_O o_E o_Q o_V r49 1 a2 r50 hcr50) (cwV2 hts q1512 mvX8_item rfl rfl ⟨(Nat.le_of_ble_eq_true rfl), (Nat.le_of_ble_eq_true rfl)⟩) hK hE hA hP hD hS 0 (T := TX8) (N := 48) (ci := 8) rfl rfl [0, 8, 9] rfl (by decide) rfl rfl rfl rfl rfl rfl hl.1 (Nat.le_of_ble_eq_true rfl) dX8_openRow_85 ⟨Nat.zero_le _, Nat.zero_le _⟩ (fun H locs hP hD hS => ?_)
      cases hM
      exact rt_v hx hb hr hlk hP hD hS rfl dX8_openRow_88

set_option maxHeartbeats 4000000 in
set_option maxRecDepth 100000 in
theorem c_Model_openItem (l : Launch) (D : va_G) (cI : ClassId) (sd : Nat → Nat) (ad : Nat → Nat) (o_X : S_MX) (o_L : S_ML) (o_U : S_MU) (o_O : S_MO) (o_E : S_ME) (o_Q : S_MQ) (o_C : S_MC) (o_N : S_MN) (o_T : S_MT) (o_V : S_MV) (o_I : S_MI) (a1 : Int32) (a2 : Int32) (res : S_MV × S_MI) (hM : f_Model_openItem o_C o_N o_T o_V o_I a1 a2 = some res) : Ctr l D cI sd yX8_openItem (wsM yX8_openItem cX8_openItem 3 (Option.none : Option Jvm.ClassFile.FieldType)) { frames := 6, cells := 0, slots := 0, locals := 128 } [.ref (ad 100), .int a1, .int a2] (wM0 ad o_X o_L o_N o_T o_U o_O o_E o_Q o_V o_I ++ wMC cI ad o_C ++ wMN cI ad o_N ++ wMT cI ad o_T ++ wMV cI ad o_V ++ wMI cI ad o_I) (wM0 ad o_X o_L o_N o_T o_U o_O o_E o_Q res.1 res.2 ++ wMC cI ad o_C ++ wMN cI ad o_N ++ wMT cI ad o_T ++ wMV cI ad res.1 ++ wMI cI ad res.2) none := by
  refine Ctr.of (cc := cX8_openItem) (maxL := 3) (own := RX8) (by decide +kernel) rfl rfl (Nat.le_of_ble_eq_true rfl) ?_
  intro p e s m below meth c A ls hx hb hr hml hown hts hlk hK hE hA hP hD hS hl
  have hl : lv_has ls 3 [(0, .ref (ad 100)), (1, .int a1), (2, .int a2)] := hl
  unfold f_Model_openItem at hM
  refine lv_iload_n hx hb dX8_openItem_0 rfl (lv_at hl 1 rfl) ?_
  by_cases c1 : a1 = 0
  · replace hM := if_t c1 hM
    refine lv_lookup (off := 35) (tgt := 36) hx hb dX8_openItem_1 (by decide) (by exact sw_hit c1 (by decide)) (by decide) ?_
    refine lv_aload_n hx hb dX8_openItem_36 rfl (lv_at hl 0 rfl) ?_
    refine lv_iload_n hx hb dX8_openItem_37 rfl (lv_at hl 2 rfl) ?_
    obtain ⟨r2, hcr2, hM⟩ := ob_use hM
    refine cl_V (As := [.int a2]) (rest := []) (wM0 ad o_X o_L o_N o_T o_U o_O o_E o_Q r2 o_I ++ wMC cI ad o_C ++ wMN cI ad o_N ++ wMT cI ad o_T ++ wMV cI ad r2 ++ wMI cI ad o_I) [] ⟨hx, hb, hml, hown, hts⟩ (c_Model_putToken l D cI sd ad o_X o_L o_N o_T o_U o_O o_E o_Q o_I o_C o_V a2 r2 hcr2) (cwV2 hts q1520 mvX8_putToken rfl rfl ⟨(Nat.le_of_ble_eq_true rfl), (Nat.le_of_ble_eq_true rfl)⟩) hK hE hA hP hD hS 0 (T := TX8) (N := 48) (ci := 8) rfl rfl [0, 1, 2, 3, 4, 14] rfl (by decide) rfl rfl rfl rfl rfl rfl hl.1 (Nat.le_of_ble_eq_true rfl) dX8_openItem_38 ⟨Nat.zero_le _, Nat.zero_le _⟩ (fun H locs hP hD hS => ?_)
    refine lv_goto (tgt := 113) hx hb dX8_openItem_41 (by decide) ?_
    cases hM
    exact rt_v hx hb hr hlk hP hD hS rfl dX8_openItem_113
  replace hM := if_f c1 hM
  by_cases c3 : a1 = 7
  · replace hM := if_t c3 hM
    refine lv_lookup (off := 51) (tgt := 52) hx hb dX8_openItem_1 (by decide) (by rw [lv_osw c1 (by decide)]; exact sw_hit c3 (by decide)) (by decide) ?_
    refine lv_aload_n hx hb dX8_openItem_52 rfl (lv_at hl 0 rfl) ?_
    refine lv_iload_n hx hb dX8_openItem_53 rfl (lv_at hl 2 rfl) ?_
    obtain ⟨r4, hcr4, hM⟩ := ob_use hM
    refine cl_V (As := [.int a2]) (rest := []) (wM0 ad o_X o_L o_N o_T o_U o_O o_E o_Q r4.1 r4.2 ++ wMC cI ad o_C ++ wMN cI ad o_N ++ wMT cI ad o_T ++ wMV cI ad r4.1 ++ wMI cI ad r4.2) [] ⟨hx, hb, hml, hown, hts⟩ (c_Model_openParts l D cI sd ad o_X o_L o_N o_U o_O o_E o_Q o_C o_T o_V o_I a2 r4 hcr4) (cwV2 hts q1539 mvX8_openParts rfl rfl ⟨(Nat.le_of_ble_eq_true rfl), (Nat.le_of_ble_eq_true rfl)⟩) hK hE hA hP hD hS 0 (T := TX8) (N := 48) (ci := 8) rfl rfl [0, 1, 2, 3, 4, 7, 8, 9, 10, 11, 12, 13, 14, 15, 16] rfl (by decide) rfl rfl rfl rfl rfl rfl hl.1 (Nat.le_of_ble_eq_true rfl) dX8_openItem_54 ⟨Nat.zero_le _, Nat.zero_le _⟩ (fun H locs hP hD hS => ?_)
    refine lv_goto (tgt := 113) hx hb dX8_openItem_57 (by decide) ?_
    cases hM
    exact rt_v hx hb hr hlk hP hD hS rfl dX8_openItem_113
  replace hM := if_f c3 hM
  by_cases c5 : a1 = 8
  · replace hM := if_t c5 hM
    refine lv_lookup (off := 43) (tgt := 44) hx hb dX8_openItem_1 (by decide) (by rw [lv_osw c1 (by decide)]; rw [lv_osw c3 (by decide)]; exact sw_hit c5 (by decide)) (by decide) ?_
    refine lv_aload_n hx hb dX8_openItem_44 rfl (lv_at hl 0 rfl) ?_
    refine lv_iload_n hx hb dX8_openItem_45 rfl (lv_at hl 2 rfl) ?_
    obtain ⟨r6, hcr6, hM⟩ := ob_use hM
    refine cl_V (As := [.int a2]) (rest := []) (wM0 ad o_X o_L o_N o_T o_U o_O o_E o_Q r6 o_I ++ wMC cI ad o_C ++ wMN cI ad o_N ++ wMT cI ad o_T ++ wMV cI ad r6 ++ wMI cI ad o_I) [] ⟨hx, hb, hml, hown, hts⟩ (c_Model_putName l D cI sd ad o_C o_X o_L o_T o_U o_O o_E o_Q o_I o_N o_V a2 r6 hcr6) (cwV2 hts q1535 mvX8_putName rfl rfl ⟨(Nat.le_of_ble_eq_true rfl), (Nat.le_of_ble_eq_true rfl)⟩) hK hE hA hP hD hS 0 (T := TX8) (N := 48) (ci := 8) rfl rfl [0, 5, 6, 14] rfl (by decide) rfl rfl rfl rfl rfl rfl hl.1 (Nat.le_of_ble_eq_true rfl) dX8_openItem_46 ⟨Nat.zero_le _, Nat.zero_le _⟩ (fun H locs hP hD hS => ?_)
    refine lv_goto (tgt := 113) hx hb dX8_openItem_49 (by decide) ?_
    cases hM
    exact rt_v hx hb hr hlk hP hD hS rfl dX8_openItem_113
  replace hM := if_f c5 hM
  refine lv_lookup (off := 59) (tgt := 60) hx hb dX8_openItem_1 (by decide) (by rw [lv_osw c1 (by decide)]; rw [lv_osw c3 (by decide)]; rw [lv_osw c5 (by decide)]; rfl) (by decide) ?_
  refine lv_iload_n hx hb dX8_openItem_60 rfl (lv_at hl 2 rfl) ?_
  refine lv_iconst (v := (-1)) hx hb dX8_openItem_61 (by decide) ?_
  refine lv_icmp_ne (tgt := 68) hx hb dX8_openItem_62 (by decide) (fun c7 => ?_) (fun c7 => ?_)
  · replace hM := if_f c7 hM
    refine lv_iload_n hx hb dX8_openItem_68 rfl (lv_at hl 1 rfl) ?_
    refine lv_iconst (v := 1) hx hb dX8_openItem_69 (by decide) ?_
    refine lv_icmp_ne (tgt := 81) hx hb dX8_openItem_70 (by decide) (fun c8 => ?_) (fun c8 => ?_)
    · replace hM := if_f c8 hM
      refine lv_iload_n hx hb dX8_openItem_81 rfl (lv_at hl 1 rfl) ?_
      refine lv_iconst (v := 4) hx hb dX8_openItem_82 (by decide) ?_
      refine lv_icmp_ne (tgt := 94) hx hb dX8_openItem_83 (by decide) (fun c9 => ?_) (fun c9 => ?_)
      · replace hM := if_f c9 hM
        refine lv_iload_n hx hb dX8_openItem_94 rfl (lv_at hl 1 rfl) ?_
        refine lv_iconst (v := 5) hx hb dX8_openItem_95 (by decide) ?_
        refine lv_icmp_ne (tgt := 107) hx hb dX8_openItem_96 (by decide) (fun c10 => ?_) (fun c10 => ?_)
        · replace hM := if_f c10 hM
          refine lv_aload_n hx hb dX8_openItem_107 rfl (lv_at hl 0 rfl) ?_
          refine lv_iload_n hx hb dX8_openItem_108 rfl (lv_at hl 1 rfl) ?_
          refine lv_iload_n hx hb dX8_openItem_109 rfl (lv_at hl 2 rfl) ?_
          obtain ⟨r11, hcr11, hM⟩ := ob_use hM
          refine cl_V (As := [.int a1, .int a2]) (rest := []) (wM0 ad o_X o_L o_N o_T o_U o_O o_E o_Q o_V r11 ++ wMC cI ad o_C ++ wMN cI ad o_N ++ wMT cI ad o_T ++ wMV cI ad o_V ++ wMI cI ad r11) [] ⟨hx, hb, hml, hown, hts⟩ (c_Model_openRow l D cI sd ad o_C o_X o_L o_N o_U o_O o_E o_Q o_V o_T o_I a1 a2 r11 hcr11) (cwV2 hts q1608 mvX8_openRow rfl rfl ⟨(Nat.le_of_ble_eq_true rfl), (Nat.le_of_ble_eq_true rfl)⟩) hK hE hA hP hD hS 0 (T := TX8) (N := 48) (ci := 8) rfl rfl [0, 7, 8, 9, 10, 11, 12, 13, 15, 16] rfl (by decide) rfl rfl rfl rfl rfl rfl hl.1 (Nat.le_of_ble_eq_true rfl) dX8_openItem_110 ⟨Nat.zero_le _, Nat.zero_le _⟩ (fun H locs hP hD hS => ?_)
          cases hM
          exact rt_v hx hb hr hlk hP hD hS rfl dX8_openItem_113
        · replace hM := if_t c10 hM
          refine lv_aload_n hx hb dX8_openItem_99 rfl (lv_at hl 0 rfl) ?_
          refine lv_iload_n hx hb dX8_openItem_100 rfl (lv_at hl 2 rfl) ?_
          obtain ⟨r12, hcr12, hM⟩ := ob_use hM
          refine cl_V (As := [.int a2]) (rest := []) (wM0 ad o_X o_L o_N o_T o_U o_O o_E o_Q o_V r12 ++ wMC cI ad o_C ++ wMN cI ad o_N ++ wMT cI ad o_T ++ wMV cI ad o_V ++ wMI cI ad r12) [] ⟨hx, hb, hml, hown, hts⟩ (c_Model_openCase l D cI sd ad o_C o_X o_L o_N o_U o_O o_E o_Q o_V o_T o_I a2 r12 hcr12) (cwV2 hts q1604 mvX8_openCase rfl rfl ⟨(Nat.le_of_ble_eq_true rfl), (Nat.le_of_ble_eq_true rfl)⟩) hK hE hA hP hD hS 0 (T := TX8) (N := 48) (ci := 8) rfl rfl [0, 7, 8, 9, 10, 11, 12, 13, 15, 16] rfl (by decide) rfl rfl rfl rfl rfl rfl hl.1 (Nat.le_of_ble_eq_true rfl) dX8_openItem_101 ⟨Nat.zero_le _, Nat.zero_le _⟩ (fun H locs hP hD hS => ?_)
          refine lv_goto (tgt := 113) hx hb dX8_openItem_104 (by decide) ?_
          cases hM
          exact rt_v hx hb hr hlk hP hD hS rfl dX8_openItem_113
      · replace hM := if_t c9 hM
        refine lv_aload_n hx hb dX8_openItem_86 rfl (lv_at hl 0 rfl) ?_
        refine lv_iload_n hx hb dX8_openItem_87 rfl (lv_at hl 2 rfl) ?_
        obtain ⟨r13, hcr13, hM⟩ := ob_use hM
        refine cl_V (As := [.int a2]) (rest := []) (wM0 ad o_X o_L o_N o_T o_U o_O o_E o_Q o_V r13 ++ wMC cI ad o_C ++ wMN cI ad o_N ++ wMT cI ad o_T ++ wMV cI ad o_V ++ wMI cI ad r13) [] ⟨hx, hb, hml, hown, hts⟩ (c_Model_openIf l D cI sd ad o_C o_X o_L o_N o_U o_O o_E o_Q o_V o_T o_I a2 r13 hcr13) (cwV2 hts q1600 mvX8_openIf rfl rfl ⟨(Nat.le_of_ble_eq_true rfl), (Nat.le_of_ble_eq_true rfl)⟩) hK hE hA hP hD hS 0 (T := TX8) (N := 48) (ci := 8) rfl rfl [0, 7, 8, 9, 10, 11, 12, 13, 15, 16] rfl (by decide) rfl rfl rfl rfl rfl rfl hl.1 (Nat.le_of_ble_eq_true rfl) dX8_openItem_88 ⟨Nat.zero_le _, Nat.zero_le _⟩ (fun H locs hP hD hS => ?_)
        refine lv_goto (tgt := 113) hx hb dX8_openItem_91 (by decide) ?_
        cases hM
        exact rt_v hx hb hr hlk hP hD hS rfl dX8_openItem_113
    · replace hM := if_t c8 hM
      refine lv_aload_n hx hb dX8_openItem_73 rfl (lv_at hl 0 rfl) ?_
      refine lv_iload_n hx hb dX8_openItem_74 rfl (lv_at hl 2 rfl) ?_
      obtain ⟨r14, hcr14, hM⟩ := ob_use hM
      refine cl_V (As := [.int a2]) (rest := []) (wM0 ad o_X o_L o_N o_T o_U o_O o_E o_Q r14.1 r14.2 ++ wMC cI ad o_C ++ wMN cI ad o_N ++ wMT cI ad o_T ++ wMV cI ad r14.1 ++ wMI cI ad r14.2) [] ⟨hx, hb, hml, hown, hts⟩ (c_Model_openNode l D cI sd ad o_X o_L o_U o_O o_E o_Q o_C o_N o_T o_V o_I a2 r14 hcr14) (cwV2 hts q1543 mvX8_openNode rfl rfl ⟨(Nat.le_of_ble_eq_true rfl), (Nat.le_of_ble_eq_true rfl)⟩) hK hE hA hP hD hS 0 (T := TX8) (N := 48) (ci := 8) rfl rfl [0, 1, 2, 3, 4, 5, 6, 7, 8, 9, 10, 11, 12, 13, 14, 15, 16] rfl (by decide) rfl rfl rfl rfl rfl rfl hl.1 (Nat.le_of_ble_eq_true rfl) dX8_openItem_75 ⟨Nat.zero_le _, Nat.zero_le _⟩ (fun H locs hP hD hS => ?_)
      refine lv_goto (tgt := 113) hx hb dX8_openItem_78 (by decide) ?_
      cases hM
      exact rt_v hx hb hr hlk hP hD hS rfl dX8_openItem_113
  · replace hM := if_t c7 hM
    refine lv_goto (tgt := 113) hx hb dX8_openItem_65 (by decide) ?_
    cases hM
    exact rt_v hx hb hr hlk hP hD hS rfl dX8_openItem_113

set_option maxHeartbeats 4000000 in
set_option maxRecDepth 100000 in
theorem c_Model_write (l : Launch) (D : va_G) (cI : ClassId) (sd : Nat → Nat) (ad : Nat → Nat) (o_X : S_MX) (o_L : S_ML) (o_U : S_MU) (o_O : S_MO) (o_E : S_ME) (o_C : S_MC) (o_N : S_MN) (o_T : S_MT) (o_Q : S_MQ) (o_V : S_MV) (o_I : S_MI) (res : Int32 × S_MV × S_MI) (hM : f_Model_write o_C o_N o_T o_Q o_V o_I = some res) : Ctr l D cI sd yX8_write (wsM yX8_write cX8_write 1 (Option.some Jvm.ClassFile.FieldType.int)) { frames := 7, cells := 0, slots := 0, locals := 150 } [.ref (ad 100)] (wM0 ad o_X o_L o_N o_T o_U o_O o_E o_Q o_V o_I ++ wMC cI ad o_C ++ wMN cI ad o_N ++ wMT cI ad o_T ++ wMQ cI ad o_Q ++ wMV cI ad o_V ++ wMI cI ad o_I) (wM0 ad o_X o_L o_N o_T o_U o_O o_E o_Q res.2.1 res.2.2 ++ wMC cI ad o_C ++ wMN cI ad o_N ++ wMT cI ad o_T ++ wMQ cI ad o_Q ++ wMV cI ad res.2.1 ++ wMI cI ad res.2.2) (some (.int res.1)) := by
  refine Ctr.of (cc := cX8_write) (maxL := 1) (own := RX8) (by decide +kernel) rfl rfl (Nat.le_of_ble_eq_true rfl) ?_
  intro p e s m below meth c A ls hx hb hr hml hown hts hlk hK hE hA hP hD hS hl
  have hl : lv_has ls 1 [(0, .ref (ad 100))] := hl
  unfold f_Model_write at hM
  refine lv_aload_n hx hb dX8_write_0 rfl (lv_at hl 0 rfl) ?_
  refine va_get (D := D) (ci := 8) (v := .int o_Q.1) (C := RX8) (T := TX8) (N := 48) hx hb hts layX8 hown hK hP 0 rfl rfl 40 (by decide) (hts _ (inA q1018)) (fun _ h9 => h9) rfl dX8_write_1 ?_
  refine lv_if_ne (tgt := 9) hx hb dX8_write_4 (by decide) (fun c1 => ?_) (fun c1 => ?_)
  · replace hM := if_f c1 hM
    refine lv_aload_n hx hb dX8_write_9 rfl (lv_at hl 0 rfl) ?_
    refine lv_iconst (v := 0) hx hb dX8_write_10 (by decide) ?_
    refine va_put (D := D) (ci := 8) (v := .int 0) (ty := .int) (C := RX8) (T := TX8) (N := 48) hx hb hts layX8 tyX8 tyX8_ok nmX8 hown hK hP hD hS 0 rfl rfl 43 (by decide) (hts _ (inA q1021)) (fun _ h9 => h9) rfl (by decide +kernel) rfl rfl (Nat.le_of_ble_eq_true rfl) dX8_write_11 (fun H locs hP hD hS => ?_)
    have hP : va_P D vwCl (wM0 ad o_X o_L o_N o_T o_U o_O o_E o_Q (0, o_V.2) o_I ++ wMC cI ad o_C ++ wMN cI ad o_N ++ wMT cI ad o_T ++ wMQ cI ad o_Q ++ wMV cI ad (0, o_V.2) ++ wMI cI ad o_I) H := hP
    have hD : va_D A (wM0 ad o_X o_L o_N o_T o_U o_O o_E o_Q (0, o_V.2) o_I ++ wMC cI ad o_C ++ wMN cI ad o_N ++ wMT cI ad o_T ++ wMQ cI ad o_Q ++ wMV cI ad (0, o_V.2) ++ wMI cI ad o_I) := hD
    refine lv_aload_n hx hb dX8_write_14 rfl (lv_at hl 0 rfl) ?_
    refine lv_iconst (v := 0) hx hb dX8_write_15 (by decide) ?_
    refine va_put (D := D) (ci := 8) (v := .int 0) (ty := .int) (C := RX8) (T := TX8) (N := 48) hx hb hts layX8 tyX8 tyX8_ok nmX8 hown hK hP hD hS 0 rfl rfl 45 (by decide) (hts _ (inA q1023)) (fun _ h9 => h9) rfl (by decide +kernel) rfl rfl (Nat.le_of_ble_eq_true rfl) dX8_write_16 (fun H locs hP hD hS => ?_)
    have hP : va_P D vwCl (wM0 ad o_X o_L o_N o_T o_U o_O o_E o_Q (0, o_V.2) (0, o_I.2) ++ wMC cI ad o_C ++ wMN cI ad o_N ++ wMT cI ad o_T ++ wMQ cI ad o_Q ++ wMV cI ad (0, o_V.2) ++ wMI cI ad (0, o_I.2)) H := hP
    have hD : va_D A (wM0 ad o_X o_L o_N o_T o_U o_O o_E o_Q (0, o_V.2) (0, o_I.2) ++ wMC cI ad o_C ++ wMN cI ad o_N ++ wMT cI ad o_T ++ wMQ cI ad o_Q ++ wMV cI ad (0, o_V.2) ++ wMI cI ad (0, o_I.2)) := hD
    refine lv_aload_n hx hb dX8_write_19 rfl (lv_at hl 0 rfl) ?_
    refine lv_iconst (v := 1) hx hb dX8_write_20 (by decide) ?_
    refine lv_iconst (v := 0) hx hb dX8_write_21 (by decide) ?_
    obtain ⟨r2, hcr2, hM⟩ := ob_use hM
    refine cl_V (As := [.int 1, .int 0]) (rest := []) (wM0 ad o_X o_L o_N o_T o_U o_O o_E o_Q (0, o_V.2) r2 ++ wMC cI ad o_C ++ wMN cI ad o_N ++ wMT cI ad o_T ++ wMQ cI ad o_Q ++ wMV cI ad (0, o_V.2) ++ wMI cI ad r2) [] ⟨hx, hb, hml, hown, hts⟩ (c_Model_item l D cI sd ad o_C o_X o_L o_N o_T o_U o_O o_E o_Q (0, o_V.2) (0, o_I.2) 1 0 r2 hcr2) (cwV2 hts q1512 mvX8_item rfl rfl ⟨(Nat.le_of_ble_eq_true rfl), (Nat.le_of_ble_eq_true rfl)⟩) hK hE hA hP hD hS 0 (T := TX8) (N := 48) (ci := 8) rfl rfl [0, 17, 18] rfl (by decide) rfl rfl rfl rfl rfl rfl hl.1 (Nat.le_of_ble_eq_true rfl) dX8_write_22 ⟨Nat.zero_le _, Nat.zero_le _⟩ (fun H locs hP hD hS => ?_)
    have lp_L25 : ∀ (o_C_L25 : S_MC) (o_N_L25 : S_MN) (o_T_L25 : S_MT) (o_Q_L25 : S_MQ) (n : Nat) (o_V_L25 : S_MV) (o_I_L25 : S_MI) (out_L25 : S_MV × S_MI) (H : Heap) (locs : List Loc) (ls : Array Slot), f_Model_write_L25 o_C_L25 o_N_L25 o_T_L25 n o_V_L25 o_I_L25 = some out_L25 → va_P D vwCl (wM0 ad o_X o_L o_N_L25 o_T_L25 o_U o_O o_E o_Q_L25 o_V_L25 o_I_L25 ++ wMC cI ad o_C_L25 ++ wMN cI ad o_N_L25 ++ wMT cI ad o_T_L25 ++ wMQ cI ad o_Q_L25 ++ wMV cI ad o_V_L25 ++ wMI cI ad o_I_L25) H → va_D A (wM0 ad o_X o_L o_N_L25 o_T_L25 o_U o_O o_E o_Q_L25 o_V_L25 o_I_L25 ++ wMC cI ad o_C_L25 ++ wMN cI ad o_N_L25 ++ wMT cI ad o_T_L25 ++ wMQ cI ad o_Q_L25 ++ wMV cI ad o_V_L25 ++ wMI cI ad o_I_L25) → va_S A s.heap H locs → lv_has ls 1 [(0, .ref (ad 100))] → (∀ (H : Heap) (locs : List Loc) (ls : Array Slot), va_P D vwCl (wM0 ad o_X o_L o_N_L25 o_T_L25 o_U o_O o_E o_Q_L25 out_L25.1 out_L25.2 ++ wMC cI ad o_C_L25 ++ wMN cI ad o_N_L25 ++ wMT cI ad o_T_L25 ++ wMQ cI ad o_Q_L25 ++ wMV cI ad out_L25.1 ++ wMI cI ad out_L25.2) H → va_D A (wM0 ad o_X o_L o_N_L25 o_T_L25 o_U o_O o_E o_Q_L25 out_L25.1 out_L25.2 ++ wMC cI ad o_C_L25 ++ wMN cI ad o_N_L25 ++ wMT cI ad o_T_L25 ++ wMQ cI ad o_Q_L25 ++ wMV cI ad out_L25.1 ++ wMI cI ad out_L25.2) → va_S A s.heap H locs → lv_has ls 1 [(0, .ref (ad 100))] → W p l e { frames := 7, cells := 0, slots := 0, locals := 150 } s m [.ref (ad 100)].toArray below meth c H locs 0 0 (MQ below (CQ D A (wM0 ad o_X o_L o_N o_T o_U o_O o_E o_Q res.2.1 res.2.2 ++ wMC cI ad o_C ++ wMN cI ad o_N ++ wMT cI ad o_T ++ wMQ cI ad o_Q ++ wMV cI ad res.2.1 ++ wMI cI ad res.2.2) (some (.int res.1))) [.ref (ad 100)].toArray s 0 0 A) (F0 m 67 ls [])) → W p l e { frames := 7, cells := 0, slots := 0, locals := 150 } s m [.ref (ad 100)].toArray below meth c H locs 0 0 (MQ below (CQ D A (wM0 ad o_X o_L o_N o_T o_U o_O o_E o_Q res.2.1 res.2.2 ++ wMC cI ad o_C ++ wMN cI ad o_N ++ wMT cI ad o_T ++ wMQ cI ad o_Q ++ wMV cI ad res.2.1 ++ wMI cI ad res.2.2) (some (.int res.1))) [.ref (ad 100)].toArray s 0 0 A) (F0 m 25 ls []) := by
      intro o_C_L25 o_N_L25 o_T_L25 o_Q_L25 n
      induction n with
      | zero => intro o_V_L25 o_I_L25 out_L25 H locs ls hM; exact absurd (show none = some _ from hM) (by simp)
      | succ n ih_L25 =>
        intro o_V_L25 o_I_L25 out_L25 H locs ls hM hP hD hS hl kx_L25
        rw [f_Model_write_L25] at hM
        refine lv_aload_n hx hb dX8_write_25 rfl (lv_at hl 0 rfl) ?_
        refine va_get (D := D) (ci := 8) (v := .int o_I_L25.1) (C := RX8) (T := TX8) (N := 48) hx hb hts layX8 hown hK hP 0 rfl rfl 45 (by decide) (hts _ (inA q1023)) (fun _ h9 => h9) rfl dX8_write_26 ?_
        refine lv_if_le (tgt := 67) hx hb dX8_write_29 (by decide) (fun c1351 => ?_) (fun c1351 => ?_)
        · replace hM := if_t c1351 hM
          cases hM
          exact kx_L25 _ _ _ hP hD hS (lv_sub hl [0] rfl)
        · replace hM := if_f c1351 hM
          refine lv_aload_n hx hb dX8_write_32 rfl (lv_at hl 0 rfl) ?_
          refine lv_dup hx hb dX8_write_33 rfl ?_
          refine va_get (D := D) (ci := 8) (v := .int o_I_L25.1) (C := RX8) (T := TX8) (N := 48) hx hb hts layX8 hown hK hP 0 rfl rfl 45 (by decide) (hts _ (inA q1023)) (fun _ h9 => h9) rfl dX8_write_34 ?_
          refine lv_iconst (v := 1) hx hb dX8_write_37 (by decide) ?_
          refine lv_isub hx hb dX8_write_38 ?_
          refine va_put (D := D) (ci := 8) (v := .int (o_I_L25.1 - 1)) (ty := .int) (C := RX8) (T := TX8) (N := 48) hx hb hts layX8 tyX8 tyX8_ok nmX8 hown hK hP hD hS 0 rfl rfl 45 (by decide) (hts _ (inA q1023)) (fun _ h9 => h9) rfl (by decide +kernel) rfl rfl (Nat.le_of_ble_eq_true rfl) dX8_write_39 (fun H locs hP hD hS => ?_)
          have hP : va_P D vwCl (wM0 ad o_X o_L o_N_L25 o_T_L25 o_U o_O o_E o_Q_L25 o_V_L25 (o_I_L25.1 - 1, o_I_L25.2) ++ wMC cI ad o_C_L25 ++ wMN cI ad o_N_L25 ++ wMT cI ad o_T_L25 ++ wMQ cI ad o_Q_L25 ++ wMV cI ad o_V_L25 ++ wMI cI ad (o_I_L25.1 - 1, o_I_L25.2)) H := hP
          have hD : va_D A (wM0 ad o_X o_L o_N_L25 o_T_L25 o_U o_O o_E o_Q_L25 o_V_L25 (o_I_L25.1 - 1, o_I_L25.2) ++ wMC cI ad o_C_L25 ++ wMN cI ad o_N_L25 ++ wMT cI ad o_T_L25 ++ wMQ cI ad o_Q_L25 ++ wMV cI ad o_V_L25 ++ wMI cI ad (o_I_L25.1 - 1, o_I_L25.2)) := hD
          refine lv_aload_n hx hb dX8_write_42 rfl (lv_at hl 0 rfl) ?_
          refine lv_aload_n hx hb dX8_write_43 rfl (lv_at hl 0 rfl) ?_
          refine va_get (D := D) (ci := 8) (v := .ref (ad 123)) (C := RX8) (T := TX8) (N := 48) hx hb hts layX8 hown hK hP 0 rfl rfl 46 (by decide) (hts _ (inA q1024)) (fun _ h9 => h9) rfl dX8_write_44 ?_
          refine lv_aload_n hx hb dX8_write_47 rfl (lv_at hl 0 rfl) ?_
          refine va_get (D := D) (ci := 8) (v := .int (o_I_L25.1 - 1)) (C := RX8) (T := TX8) (N := 48) hx hb hts layX8 hown hK hP 0 rfl rfl 45 (by decide) (hts _ (inA q1023)) (fun _ h9 => h9) rfl dX8_write_48 ?_
          obtain ⟨b1352, hM⟩ := gd_use hM
          refine va_iald hx hb hK hP 17 0 rfl rfl b1352 dX8_write_51 ?_
          refine lv_aload_n hx hb dX8_write_52 rfl (lv_at hl 0 rfl) ?_
          refine va_get (D := D) (ci := 8) (v := .ref (ad 124)) (C := RX8) (T := TX8) (N := 48) hx hb hts layX8 hown hK hP 0 rfl rfl 47 (by decide) (hts _ (inA q1025)) (fun _ h9 => h9) rfl dX8_write_53 ?_
          refine lv_aload_n hx hb dX8_write_56 rfl (lv_at hl 0 rfl) ?_
          refine va_get (D := D) (ci := 8) (v := .int (o_I_L25.1 - 1)) (C := RX8) (T := TX8) (N := 48) hx hb hts layX8 hown hK hP 0 rfl rfl 45 (by decide) (hts _ (inA q1023)) (fun _ h9 => h9) rfl dX8_write_57 ?_
          obtain ⟨b1353, hM⟩ := gd_use hM
          refine va_iald hx hb hK hP 18 0 rfl rfl b1353 dX8_write_60 ?_
          obtain ⟨r1354, hcr1354, hM⟩ := ob_use hM
          refine cl_V (As := [.int (o_I_L25.2.1 (o_I_L25.1 - 1).toNatClampNeg), .int (o_I_L25.2.2 (o_I_L25.1 - 1).toNatClampNeg)]) (rest := []) (wM0 ad o_X o_L o_N_L25 o_T_L25 o_U o_O o_E o_Q_L25 r1354.1 r1354.2 ++ wMC cI ad o_C_L25 ++ wMN cI ad o_N_L25 ++ wMT cI ad o_T_L25 ++ wMQ cI ad o_Q_L25 ++ wMV cI ad r1354.1 ++ wMI cI ad r1354.2) [] ⟨hx, hb, hml, hown, hts⟩ (c_Model_openItem l D cI sd ad o_X o_L o_U o_O o_E o_Q_L25 o_C_L25 o_N_L25 o_T_L25 o_V_L25 (o_I_L25.1 - 1, o_I_L25.2) (o_I_L25.2.1 (o_I_L25.1 - 1).toNatClampNeg) (o_I_L25.2.2 (o_I_L25.1 - 1).toNatClampNeg) r1354 hcr1354) (cwV2 hts q1516 mvX8_openItem rfl rfl ⟨(Nat.le_of_ble_eq_true rfl), (Nat.le_of_ble_eq_true rfl)⟩) hK hE hA hP hD hS 0 (T := TX8) (N := 48) (ci := 8) rfl rfl [0, 1, 2, 3, 4, 5, 6, 7, 8, 9, 10, 11, 12, 13, 16, 17, 18] rfl (by decide) rfl rfl rfl rfl rfl rfl hl.1 (Nat.le_of_ble_eq_true rfl) dX8_write_61 ⟨Nat.zero_le _, Nat.zero_le _⟩ (fun H locs hP hD hS => ?_)
          refine lv_goto (tgt := 25) hx hb dX8_write_64 (by decide) ?_
          exact ih_L25 r1354.1 r1354.2 out_L25 _ _ _ hM hP hD hS (lv_sub hl [0] rfl) kx_L25
    obtain ⟨r3, hcr3, hM⟩ := ob_use hM
    refine lp_L25 o_C o_N o_T o_Q FU (0, o_V.2) r2 r3 _ _ _ hcr3 hP hD hS (lv_sub hl [0] rfl) (fun H locs ls hP hD hS hl => ?_)
    refine lv_aload_n hx hb dX8_write_67 rfl (lv_at hl 0 rfl) ?_
    refine va_get (D := D) (ci := 8) (v := .int r3.1.1) (C := RX8) (T := TX8) (N := 48) hx hb hts layX8 hown hK hP 0 rfl rfl 43 (by decide) (hts _ (inA q1021)) (fun _ h9 => h9) rfl dX8_write_68 ?_
    cases hM
    exact rt_i hx hb hr hlk hP hD hS rfl dX8_write_71
  · replace hM := if_t c1 hM
    refine lv_iconst (v := (-1)) hx hb dX8_write_7 (by decide) ?_
    cases hM
    exact rt_i hx hb hr hlk hP hD hS rfl dX8_write_8

set_option maxHeartbeats 4000000 in
set_option maxRecDepth 100000 in
theorem c_Model_byteAt (l : Launch) (D : va_G) (cI : ClassId) (sd : Nat → Nat) (ad : Nat → Nat) (o_C : S_MC) (o_X : S_MX) (o_L : S_ML) (o_N : S_MN) (o_T : S_MT) (o_U : S_MU) (o_O : S_MO) (o_E : S_ME) (o_Q : S_MQ) (o_I : S_MI) (o_V : S_MV) (a1 : Int32) (res : Int32) (hM : f_Model_byteAt o_V a1 = some res) : Ctr l D cI sd yX8_byteAt (wsM yX8_byteAt cX8_byteAt 2 (Option.some Jvm.ClassFile.FieldType.int)) { frames := 0, cells := 0, slots := 0, locals := 0 } [.ref (ad 100), .int a1] (wM0 ad o_X o_L o_N o_T o_U o_O o_E o_Q o_V o_I ++ wMV cI ad o_V) (wM0 ad o_X o_L o_N o_T o_U o_O o_E o_Q o_V o_I ++ wMV cI ad o_V) (some (.int res)) := by
  refine Ctr.of (cc := cX8_byteAt) (maxL := 2) (own := RX8) (by decide +kernel) rfl rfl (Nat.le_of_ble_eq_true rfl) ?_
  intro p e s m below meth c A ls hx hb hr hml hown hts hlk hK hE hA hP hD hS hl
  have hl : lv_has ls 2 [(0, .ref (ad 100)), (1, .int a1)] := hl
  unfold f_Model_byteAt at hM
  refine lv_iload_n hx hb dX8_byteAt_0 rfl (lv_at hl 1 rfl) ?_
  refine lv_if_lt (tgt := 12) hx hb dX8_byteAt_1 (by decide) (fun c1 => ?_) (fun c1 => ?_)
  · replace hM := if_t c1 hM
    refine lv_iconst (v := (-1)) hx hb dX8_byteAt_12 (by decide) ?_
    refine lv_goto (tgt := 22) hx hb dX8_byteAt_13 (by decide) ?_
    cases hM
    exact rt_i hx hb hr hlk hP hD hS rfl dX8_byteAt_22
  · replace hM := if_f c1 hM
    refine lv_iload_n hx hb dX8_byteAt_4 rfl (lv_at hl 1 rfl) ?_
    refine lv_aload_n hx hb dX8_byteAt_5 rfl (lv_at hl 0 rfl) ?_
    refine va_get (D := D) (ci := 8) (v := .int o_V.1) (C := RX8) (T := TX8) (N := 48) hx hb hts layX8 hown hK hP 0 rfl rfl 43 (by decide) (hts _ (inA q1021)) (fun _ h9 => h9) rfl dX8_byteAt_6 ?_
    refine lv_icmp_lt (tgt := 16) hx hb dX8_byteAt_9 (by decide) (fun c2 => ?_) (fun c2 => ?_)
    · replace hM := if_t c2 hM
      refine lv_aload_n hx hb dX8_byteAt_16 rfl (lv_at hl 0 rfl) ?_
      refine va_get (D := D) (ci := 8) (v := .ref (ad 122)) (C := RX8) (T := TX8) (N := 48) hx hb hts layX8 hown hK hP 0 rfl rfl 44 (by decide) (hts _ (inA q1022)) (fun _ h9 => h9) rfl dX8_byteAt_17 ?_
      refine lv_iload_n hx hb dX8_byteAt_20 rfl (lv_at hl 1 rfl) ?_
      obtain ⟨b3, hM⟩ := gd_use hM
      refine va_iald hx hb hK hP 1 0 rfl rfl b3 dX8_byteAt_21 ?_
      cases hM
      exact rt_i hx hb hr hlk hP hD hS rfl dX8_byteAt_22
    · replace hM := if_f c2 hM
      refine lv_iconst (v := (-1)) hx hb dX8_byteAt_12 (by decide) ?_
      refine lv_goto (tgt := 22) hx hb dX8_byteAt_13 (by decide) ?_
      cases hM
      exact rt_i hx hb hr hlk hP hD hS rfl dX8_byteAt_22

set_option maxHeartbeats 4000000 in
set_option maxRecDepth 100000 in
theorem c_Model_back (l : Launch) (D : va_G) (cI : ClassId) (sd : Nat → Nat) (ad : Nat → Nat) (o_C : S_MC) (o_L : S_ML) (o_N : S_MN) (o_T : S_MT) (o_U : S_MU) (o_O : S_MO) (o_E : S_ME) (o_Q : S_MQ) (o_I : S_MI) (o_X : S_MX) (o_V : S_MV) (res : Int32 × S_MX) (hM : f_Model_back o_X o_V = some res) : Ctr l D cI sd yX8_back (wsM yX8_back cX8_back 2 (Option.some Jvm.ClassFile.FieldType.int)) { frames := 0, cells := 0, slots := 0, locals := 0 } [.ref (ad 100)] (wM0 ad o_X o_L o_N o_T o_U o_O o_E o_Q o_V o_I ++ wMX cI ad o_X ++ wMV cI ad o_V) (wM0 ad res.2 o_L o_N o_T o_U o_O o_E o_Q o_V o_I ++ wMX cI ad res.2 ++ wMV cI ad o_V) (some (.int res.1)) := by
  refine Ctr.of (cc := cX8_back) (maxL := 2) (own := RX8) (by decide +kernel) rfl rfl (Nat.le_of_ble_eq_true rfl) ?_
  intro p e s m below meth c A ls hx hb hr hml hown hts hlk hK hE hA hP hD hS hl
  have hl : lv_has ls 2 [(0, .ref (ad 100))] := hl
  unfold f_Model_back at hM
  refine lv_aload_n hx hb dX8_back_0 rfl (lv_at hl 0 rfl) ?_
  refine va_get (D := D) (ci := 8) (v := .int o_V.1) (C := RX8) (T := TX8) (N := 48) hx hb hts layX8 hown hK hP 0 rfl rfl 43 (by decide) (hts _ (inA q1021)) (fun _ h9 => h9) rfl dX8_back_1 ?_
  refine lv_if_eq (tgt := 17) hx hb dX8_back_4 (by decide) (fun c1 => ?_) (fun c1 => ?_)
  · replace hM := if_t c1 hM
    refine lv_iconst (v := (-1)) hx hb dX8_back_17 (by decide) ?_
    cases hM
    exact rt_i hx hb hr hlk hP hD hS rfl dX8_back_18
  · replace hM := if_f c1 hM
    refine lv_aload_n hx hb dX8_back_7 rfl (lv_at hl 0 rfl) ?_
    refine va_get (D := D) (ci := 8) (v := .int o_V.1) (C := RX8) (T := TX8) (N := 48) hx hb hts layX8 hown hK hP 0 rfl rfl 43 (by decide) (hts _ (inA q1021)) (fun _ h9 => h9) rfl dX8_back_8 ?_
    refine lv_sipush (v := 8192) hx hb dX8_back_11 (by decide) ?_
    refine lv_icmp_le (tgt := 19) hx hb dX8_back_14 (by decide) (fun c2 => ?_) (fun c2 => ?_)
    · replace hM := if_t c2 hM
      refine lv_iconst (v := 0) hx hb dX8_back_19 (by decide) ?_
      refine lv_istore_n (lv' := [(1, .int 0), (0, .ref (ad 100))]) hx hb dX8_back_20 rfl hl (by decide) rfl (fun ls hl => ?_)
      have lp_L21 : ∀ (o_V_L21 : S_MV) (n : Nat) (v1_L21 : Int32) (o_X_L21 : S_MX) (out_L21 : S_MX) (H : Heap) (locs : List Loc) (ls : Array Slot), f_Model_back_L21 o_V_L21 n v1_L21 o_X_L21 = some out_L21 → va_P D vwCl (wM0 ad o_X_L21 o_L o_N o_T o_U o_O o_E o_Q o_V_L21 o_I ++ wMX cI ad o_X_L21 ++ wMV cI ad o_V_L21) H → va_D A (wM0 ad o_X_L21 o_L o_N o_T o_U o_O o_E o_Q o_V_L21 o_I ++ wMX cI ad o_X_L21 ++ wMV cI ad o_V_L21) → va_S A s.heap H locs → lv_has ls 2 [(1, .int v1_L21), (0, .ref (ad 100))] → (∀ (H : Heap) (locs : List Loc) (ls : Array Slot), va_P D vwCl (wM0 ad out_L21 o_L o_N o_T o_U o_O o_E o_Q o_V_L21 o_I ++ wMX cI ad out_L21 ++ wMV cI ad o_V_L21) H → va_D A (wM0 ad out_L21 o_L o_N o_T o_U o_O o_E o_Q o_V_L21 o_I ++ wMX cI ad out_L21 ++ wMV cI ad o_V_L21) → va_S A s.heap H locs → lv_has ls 2 [(0, .ref (ad 100))] → W p l e { frames := 0, cells := 0, slots := 0, locals := 0 } s m [.ref (ad 100)].toArray below meth c H locs 0 0 (MQ below (CQ D A (wM0 ad res.2 o_L o_N o_T o_U o_O o_E o_Q o_V o_I ++ wMX cI ad res.2 ++ wMV cI ad o_V) (some (.int res.1))) [.ref (ad 100)].toArray s 0 0 A) (F0 m 47 ls [])) → W p l e { frames := 0, cells := 0, slots := 0, locals := 0 } s m [.ref (ad 100)].toArray below meth c H locs 0 0 (MQ below (CQ D A (wM0 ad res.2 o_L o_N o_T o_U o_O o_E o_Q o_V o_I ++ wMX cI ad res.2 ++ wMV cI ad o_V) (some (.int res.1))) [.ref (ad 100)].toArray s 0 0 A) (F0 m 21 ls []) := by
        intro o_V_L21 n
        induction n with
        | zero => intro v1_L21 o_X_L21 out_L21 H locs ls hM; exact absurd (show none = some _ from hM) (by simp)
        | succ n ih_L21 =>
          intro v1_L21 o_X_L21 out_L21 H locs ls hM hP hD hS hl kx_L21
          rw [f_Model_back_L21] at hM
          refine lv_iload_n hx hb dX8_back_21 rfl (lv_at hl 0 rfl) ?_
          refine lv_aload_n hx hb dX8_back_22 rfl (lv_at hl 1 rfl) ?_
          refine va_get (D := D) (ci := 8) (v := .int o_V_L21.1) (C := RX8) (T := TX8) (N := 48) hx hb hts layX8 hown hK hP 0 rfl rfl 43 (by decide) (hts _ (inA q1021)) (fun _ h9 => h9) rfl dX8_back_23 ?_
          refine lv_icmp_ge (tgt := 47) hx hb dX8_back_26 (by decide) (fun c1311 => ?_) (fun c1311 => ?_)
          · replace hM := if_t c1311 hM
            cases hM
            exact kx_L21 _ _ _ hP hD hS (lv_sub hl [1] rfl)
          · replace hM := if_f c1311 hM
            refine lv_aload_n hx hb dX8_back_29 rfl (lv_at hl 1 rfl) ?_
            refine va_get (D := D) (ci := 8) (v := .ref (ad 105)) (C := RX8) (T := TX8) (N := 48) hx hb hts layX8 hown hK hP 0 rfl rfl 5 (by decide) (hts _ (inA q983)) (fun _ h9 => h9) rfl dX8_back_30 ?_
            refine lv_iload_n hx hb dX8_back_33 rfl (lv_at hl 0 rfl) ?_
            refine lv_aload_n hx hb dX8_back_34 rfl (lv_at hl 1 rfl) ?_
            refine va_get (D := D) (ci := 8) (v := .ref (ad 122)) (C := RX8) (T := TX8) (N := 48) hx hb hts layX8 hown hK hP 0 rfl rfl 44 (by decide) (hts _ (inA q1022)) (fun _ h9 => h9) rfl dX8_back_35 ?_
            refine lv_iload_n hx hb dX8_back_38 rfl (lv_at hl 0 rfl) ?_
            obtain ⟨b1312, hM⟩ := gd_use hM
            refine va_iald hx hb hK hP 2 0 rfl rfl b1312 dX8_back_39 ?_
            refine lv_topi (fun x1314 ex1314 => ?_)
            replace hM := nm_use ex1314 hM
            obtain ⟨b1313, hM⟩ := gd_use hM
            refine va_iast hx hb hK hP hD hS 1 0 rfl rfl b1313 dX8_back_40 (fun H locs hP hD hS => ?_)
            have hP : va_P D vwCl (wM0 ad (o_X_L21.1, upd o_X_L21.2 v1_L21.toNatClampNeg x1314) o_L o_N o_T o_U o_O o_E o_Q o_V_L21 o_I ++ wMX cI ad (o_X_L21.1, upd o_X_L21.2 v1_L21.toNatClampNeg x1314) ++ wMV cI ad o_V_L21) H := hP
            have hD : va_D A (wM0 ad (o_X_L21.1, upd o_X_L21.2 v1_L21.toNatClampNeg x1314) o_L o_N o_T o_U o_O o_E o_Q o_V_L21 o_I ++ wMX cI ad (o_X_L21.1, upd o_X_L21.2 v1_L21.toNatClampNeg x1314) ++ wMV cI ad o_V_L21) := hD
            obtain ⟨x1315, ex1315⟩ : ∃ y : Int32, y = v1_L21 + 1 := ⟨_, rfl⟩
            replace hM := nm_use ex1315 hM
            refine lv_iinc (v := x1315) (lv' := [(1, .int x1315), (0, .ref (ad 100))]) hx hb dX8_back_41 hl (k := 0) rfl (by rw [ex1315]; rfl) (by decide) rfl (fun ls hl => ?_)
            refine lv_goto (tgt := 21) hx hb dX8_back_44 (by decide) ?_
            exact ih_L21 x1315 (o_X_L21.1, upd o_X_L21.2 v1_L21.toNatClampNeg x1314) out_L21 _ _ _ hM hP hD hS (lv_sub hl [0, 1] rfl) kx_L21
      obtain ⟨r3, hcr3, hM⟩ := ob_use hM
      refine lp_L21 o_V FU 0 o_X r3 _ _ _ hcr3 hP hD hS (lv_sub hl [0, 1] rfl) (fun H locs ls hP hD hS hl => ?_)
      refine lv_aload_n hx hb dX8_back_47 rfl (lv_at hl 0 rfl) ?_
      refine lv_aload_n hx hb dX8_back_48 rfl (lv_at hl 0 rfl) ?_
      refine va_get (D := D) (ci := 8) (v := .int o_V.1) (C := RX8) (T := TX8) (N := 48) hx hb hts layX8 hown hK hP 0 rfl rfl 43 (by decide) (hts _ (inA q1021)) (fun _ h9 => h9) rfl dX8_back_49 ?_
      refine va_put (D := D) (ci := 8) (v := .int o_V.1) (ty := .int) (C := RX8) (T := TX8) (N := 48) hx hb hts layX8 tyX8 tyX8_ok nmX8 hown hK hP hD hS 0 rfl rfl 4 (by decide) (hts _ (inA q982)) (fun _ h9 => h9) rfl (by decide +kernel) rfl rfl (Nat.le_of_ble_eq_true rfl) dX8_back_52 (fun H locs hP hD hS => ?_)
      have hP : va_P D vwCl (wM0 ad (o_V.1, r3.2) o_L o_N o_T o_U o_O o_E o_Q o_V o_I ++ wMX cI ad (o_V.1, r3.2) ++ wMV cI ad o_V) H := hP
      have hD : va_D A (wM0 ad (o_V.1, r3.2) o_L o_N o_T o_U o_O o_E o_Q o_V o_I ++ wMX cI ad (o_V.1, r3.2) ++ wMV cI ad o_V) := hD
      refine lv_aload_n hx hb dX8_back_55 rfl (lv_at hl 0 rfl) ?_
      refine va_get (D := D) (ci := 8) (v := .int o_V.1) (C := RX8) (T := TX8) (N := 48) hx hb hts layX8 hown hK hP 0 rfl rfl 4 (by decide) (hts _ (inA q982)) (fun _ h9 => h9) rfl dX8_back_56 ?_
      cases hM
      exact rt_i hx hb hr hlk hP hD hS rfl dX8_back_59
    · replace hM := if_f c2 hM
      refine lv_iconst (v := (-1)) hx hb dX8_back_17 (by decide) ?_
      cases hM
      exact rt_i hx hb hr hlk hP hD hS rfl dX8_back_18

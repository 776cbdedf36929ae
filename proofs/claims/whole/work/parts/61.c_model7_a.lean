set_option maxHeartbeats 4000000 in
set_option maxRecDepth 100000 in
theorem c_Model_openStatement (l : Launch) (D : va_G) (cI : ClassId) (sd : Nat → Nat) (ad : Nat → Nat) (o_C : S_MC) (o_X : S_MX) (o_L : S_ML) (o_N : S_MN) (o_U : S_MU) (o_O : S_MO) (o_E : S_ME) (o_Q : S_MQ) (o_V : S_MV) (o_T : S_MT) (o_I : S_MI) (a1 : Int32) (res : S_MI) (hM : f_Model_openStatement o_T o_I a1 = some res) : Ctr l D cI sd yX8_openStatement (wsM yX8_openStatement cX8_openStatement 2 (Option.none : Option Jvm.ClassFile.FieldType)) { frames := 2, cells := 0, slots := 0, locals := 46 } [.ref (ad 100), .int a1] (wM_TI cI ad o_X o_L o_N o_T o_U o_O o_E o_Q o_V o_I) (wM_TI cI ad o_X o_L o_N o_T o_U o_O o_E o_Q o_V res) none := by
  refine Ctr.of (cc := cX8_openStatement) (maxL := 2) (own := RX8) (by decide +kernel) rfl rfl (Nat.le_of_ble_eq_true rfl) ?_
  intro p e s m below meth c A ls hx hb hr hml hown hts hlk hK hE hA hP hD hS hl
  have hl : lv_has ls 2 [(0, .ref (ad 100)), (1, .int a1)] := hl
  unfold f_Model_openStatement at hM
  refine lv_aload_n hx hb dX8_openStatement_0 rfl (lv_at hl 0 rfl) ?_
  refine va_get (D := D) (ci := 8) (v := .ref (ad 108)) (C := RX8) (T := TX8) (N := 48) hx hb hts layX8 hown hK hP 0 rfl rfl 17 (by decide) (hts _ (inA q995)) (fun _ h9 => h9) rfl dX8_openStatement_1 ?_
  refine lv_iload_n hx hb dX8_openStatement_4 rfl (lv_at hl 1 rfl) ?_
  obtain ⟨b1, hM⟩ := gd_use hM
  refine va_iald hx hb hK hP 1 0 rfl rfl b1 dX8_openStatement_5 ?_
  by_cases c2 : (o_T.2.2.1 a1.toNatClampNeg) = 12
  · replace hM := if_t c2 hM
    refine lv_tableIn (tgt := 52) hx hb dX8_openStatement_6 (by rw [c2]; decide) (by rw [c2]; decide) (by rw [c2]; rfl) (by decide) ?_
    refine lv_aload_n hx hb dX8_openStatement_52 rfl (lv_at hl 0 rfl) ?_
    refine lv_iconst (v := 0) hx hb dX8_openStatement_53 (by decide) ?_
    refine lv_bipush (v := 60) hx hb dX8_openStatement_54 (by decide) ?_
    obtain ⟨r3, hcr3, hM⟩ := ob_use hM
    refine cl_V (As := [.int 0, .int 60]) (rest := []) (wM_TI cI ad o_X o_L o_N o_T o_U o_O o_E o_Q o_V r3) [] ⟨hx, hb, hml, hown, hts⟩ (c_Model_item l D cI sd ad o_C o_X o_L o_N o_T o_U o_O o_E o_Q o_V o_I 0 60 r3 hcr3) (cwV2 hts q1512 mvX8_item rfl rfl ⟨(Nat.le_of_ble_eq_true rfl), (Nat.le_of_ble_eq_true rfl)⟩) hK hE hA hP hD hS 0 (T := TX8) (N := 48) (ci := 8) rfl rfl [0, 8, 9] rfl (by decide) rfl rfl rfl rfl rfl rfl hl.1 (Nat.le_of_ble_eq_true rfl) dX8_openStatement_56 ⟨Nat.zero_le _, Nat.zero_le _⟩ (fun H locs hP hD hS => ?_)
    refine lv_aload_n hx hb dX8_openStatement_59 rfl (lv_at hl 0 rfl) ?_
    refine lv_iconst (v := 1) hx hb dX8_openStatement_60 (by decide) ?_
    refine lv_aload_n hx hb dX8_openStatement_61 rfl (lv_at hl 0 rfl) ?_
    refine lv_iload_n hx hb dX8_openStatement_62 rfl (lv_at hl 1 rfl) ?_
    obtain ⟨r4, hcr4, hM⟩ := ob_use hM
    refine cl_V (As := [.int a1]) (rest := [.int 1, .ref (ad 100)]) (wM_TI cI ad o_X o_L o_N o_T o_U o_O o_E o_Q o_V r3) (.int r4 :: [.int 1, .ref (ad 100)]) ⟨hx, hb, hml, hown, hts⟩ (c_Model_second l D cI sd ad o_C o_X o_L o_N o_U o_O o_E o_Q o_V r3 o_T a1 r4 hcr4) (cwV2 hts q1555 mvX8_second rfl rfl ⟨(Nat.le_of_ble_eq_true rfl), (Nat.le_of_ble_eq_true rfl)⟩) hK hE hA hP hD hS 0 (T := TX8) (N := 48) (ci := 8) rfl rfl [0, 1, 2, 3, 4, 5, 6, 7] rfl (by decide) (mrgE rfl rfl) rfl rfl rfl rfl rfl hl.1 (Nat.le_of_ble_eq_true rfl) dX8_openStatement_63 ⟨Nat.zero_le _, Nat.zero_le _⟩ (fun H locs hP hD hS => ?_)
    obtain ⟨r5, hcr5, hM⟩ := ob_use hM
    refine cl_V (As := [.int 1, .int r4]) (rest := []) (wM_TI cI ad o_X o_L o_N o_T o_U o_O o_E o_Q o_V r5) [] ⟨hx, hb, hml, hown, hts⟩ (c_Model_item l D cI sd ad o_C o_X o_L o_N o_T o_U o_O o_E o_Q o_V r3 1 r4 r5 hcr5) (cwV2 hts q1512 mvX8_item rfl rfl ⟨(Nat.le_of_ble_eq_true rfl), (Nat.le_of_ble_eq_true rfl)⟩) hK hE hA hP hD hS 0 (T := TX8) (N := 48) (ci := 8) rfl rfl [0, 8, 9] rfl (by decide) rfl rfl rfl rfl rfl rfl hl.1 (Nat.le_of_ble_eq_true rfl) dX8_openStatement_66 ⟨Nat.zero_le _, Nat.zero_le _⟩ (fun H locs hP hD hS => ?_)
    refine lv_aload_n hx hb dX8_openStatement_69 rfl (lv_at hl 0 rfl) ?_
    refine lv_iconst (v := 0) hx hb dX8_openStatement_70 (by decide) ?_
    refine lv_bipush (v := 50) hx hb dX8_openStatement_71 (by decide) ?_
    obtain ⟨r6, hcr6, hM⟩ := ob_use hM
    refine cl_V (As := [.int 0, .int 50]) (rest := []) (wM_TI cI ad o_X o_L o_N o_T o_U o_O o_E o_Q o_V r6) [] ⟨hx, hb, hml, hown, hts⟩ (c_Model_item l D cI sd ad o_C o_X o_L o_N o_T o_U o_O o_E o_Q o_V r5 0 50 r6 hcr6) (cwV2 hts q1512 mvX8_item rfl rfl ⟨(Nat.le_of_ble_eq_true rfl), (Nat.le_of_ble_eq_true rfl)⟩) hK hE hA hP hD hS 0 (T := TX8) (N := 48) (ci := 8) rfl rfl [0, 8, 9] rfl (by decide) rfl rfl rfl rfl rfl rfl hl.1 (Nat.le_of_ble_eq_true rfl) dX8_openStatement_73 ⟨Nat.zero_le _, Nat.zero_le _⟩ (fun H locs hP hD hS => ?_)
    refine lv_aload_n hx hb dX8_openStatement_76 rfl (lv_at hl 0 rfl) ?_
    refine lv_iconst (v := 1) hx hb dX8_openStatement_77 (by decide) ?_
    refine lv_aload_n hx hb dX8_openStatement_78 rfl (lv_at hl 0 rfl) ?_
    refine va_get (D := D) (ci := 8) (v := .ref (ad 112)) (C := RX8) (T := TX8) (N := 48) hx hb hts layX8 hown hK hP 0 rfl rfl 21 (by decide) (hts _ (inA q999)) (fun _ h9 => h9) rfl dX8_openStatement_79 ?_
    refine lv_iload_n hx hb dX8_openStatement_82 rfl (lv_at hl 1 rfl) ?_
    obtain ⟨b7, hM⟩ := gd_use hM
    refine va_iald hx hb hK hP 5 0 rfl rfl b7 dX8_openStatement_83 ?_
    obtain ⟨r8, hcr8, hM⟩ := ob_use hM
    refine cl_V (As := [.int 1, .int (o_T.2.2.2.2.2.2.1 a1.toNatClampNeg)]) (rest := []) (wM_TI cI ad o_X o_L o_N o_T o_U o_O o_E o_Q o_V r8) [] ⟨hx, hb, hml, hown, hts⟩ (c_Model_item l D cI sd ad o_C o_X o_L o_N o_T o_U o_O o_E o_Q o_V r6 1 (o_T.2.2.2.2.2.2.1 a1.toNatClampNeg) r8 hcr8) (cwV2 hts q1512 mvX8_item rfl rfl ⟨(Nat.le_of_ble_eq_true rfl), (Nat.le_of_ble_eq_true rfl)⟩) hK hE hA hP hD hS 0 (T := TX8) (N := 48) (ci := 8) rfl rfl [0, 8, 9] rfl (by decide) rfl rfl rfl rfl rfl rfl hl.1 (Nat.le_of_ble_eq_true rfl) dX8_openStatement_84 ⟨Nat.zero_le _, Nat.zero_le _⟩ (fun H locs hP hD hS => ?_)
    refine lv_goto (tgt := 367) hx hb dX8_openStatement_87 (by decide) ?_
    cases hM
    exact rt_v hx hb hr hlk hP hD hS rfl dX8_openStatement_367
  replace hM := if_f c2 hM
  by_cases c9 : (o_T.2.2.1 a1.toNatClampNeg) = 13
  · replace hM := if_t c9 hM
    refine lv_tableIn (tgt := 90) hx hb dX8_openStatement_6 (by rw [c9]; decide) (by rw [c9]; decide) (by rw [c9]; rfl) (by decide) ?_
    refine lv_aload_n hx hb dX8_openStatement_90 rfl (lv_at hl 0 rfl) ?_
    refine lv_iconst (v := 0) hx hb dX8_openStatement_91 (by decide) ?_
    refine lv_bipush (v := 60) hx hb dX8_openStatement_92 (by decide) ?_
    obtain ⟨r10, hcr10, hM⟩ := ob_use hM
    refine cl_V (As := [.int 0, .int 60]) (rest := []) (wM_TI cI ad o_X o_L o_N o_T o_U o_O o_E o_Q o_V r10) [] ⟨hx, hb, hml, hown, hts⟩ (c_Model_item l D cI sd ad o_C o_X o_L o_N o_T o_U o_O o_E o_Q o_V o_I 0 60 r10 hcr10) (cwV2 hts q1512 mvX8_item rfl rfl ⟨(Nat.le_of_ble_eq_true rfl), (Nat.le_of_ble_eq_true rfl)⟩) hK hE hA hP hD hS 0 (T := TX8) (N := 48) (ci := 8) rfl rfl [0, 8, 9] rfl (by decide) rfl rfl rfl rfl rfl rfl hl.1 (Nat.le_of_ble_eq_true rfl) dX8_openStatement_94 ⟨Nat.zero_le _, Nat.zero_le _⟩ (fun H locs hP hD hS => ?_)
    refine lv_aload_n hx hb dX8_openStatement_97 rfl (lv_at hl 0 rfl) ?_
    refine lv_bipush (v := 56) hx hb dX8_openStatement_98 (by decide) ?_
    refine lv_iconst (v := 3) hx hb dX8_openStatement_100 (by decide) ?_
    refine lv_iload_n hx hb dX8_openStatement_101 rfl (lv_at hl 1 rfl) ?_
    refine lv_bipush (v := 55) hx hb dX8_openStatement_102 (by decide) ?_
    obtain ⟨r11, hcr11, hM⟩ := ob_use hM
    refine cl_V (As := [.int 56, .int 3, .int a1, .int 55]) (rest := []) (wM_TI cI ad o_X o_L o_N o_T o_U o_O o_E o_Q o_V r11) [] ⟨hx, hb, hml, hown, hts⟩ (c_Model_itemAll l D cI sd ad o_C o_X o_L o_N o_U o_O o_E o_Q o_V o_T r10 56 3 a1 55 r11 hcr11) (cwV2 hts q1559 mvX8_itemAll rfl rfl ⟨(Nat.le_of_ble_eq_true rfl), (Nat.le_of_ble_eq_true rfl)⟩) hK hE hA hP hD hS 0 (T := TX8) (N := 48) (ci := 8) rfl rfl [0, 1, 2, 3, 4, 5, 6, 7, 8, 9] (rng_hi (n := 10) rfl rfl) (by decide) (rng_rep (n := 10) rfl rfl rfl) rfl rfl rfl rfl rfl hl.1 (Nat.le_of_ble_eq_true rfl) dX8_openStatement_104 ⟨Nat.zero_le _, Nat.zero_le _⟩ (fun H locs hP hD hS => ?_)
    refine lv_aload_n hx hb dX8_openStatement_107 rfl (lv_at hl 0 rfl) ?_
    refine lv_bipush (v := 8) hx hb dX8_openStatement_108 (by decide) ?_
    refine lv_aload_n hx hb dX8_openStatement_110 rfl (lv_at hl 0 rfl) ?_
    refine va_get (D := D) (ci := 8) (v := .ref (ad 110)) (C := RX8) (T := TX8) (N := 48) hx hb hts layX8 hown hK hP 0 rfl rfl 19 (by decide) (hts _ (inA q997)) (fun _ h9 => h9) rfl dX8_openStatement_111 ?_
    refine lv_iload_n hx hb dX8_openStatement_114 rfl (lv_at hl 1 rfl) ?_
    obtain ⟨b12, hM⟩ := gd_use hM
    refine va_iald hx hb hK hP 3 0 rfl rfl b12 dX8_openStatement_115 ?_
    obtain ⟨r13, hcr13, hM⟩ := ob_use hM
    refine cl_V (As := [.int 8, .int (o_T.2.2.2.2.1 a1.toNatClampNeg)]) (rest := []) (wM_TI cI ad o_X o_L o_N o_T o_U o_O o_E o_Q o_V r13) [] ⟨hx, hb, hml, hown, hts⟩ (c_Model_item l D cI sd ad o_C o_X o_L o_N o_T o_U o_O o_E o_Q o_V r11 8 (o_T.2.2.2.2.1 a1.toNatClampNeg) r13 hcr13) (cwV2 hts q1512 mvX8_item rfl rfl ⟨(Nat.le_of_ble_eq_true rfl), (Nat.le_of_ble_eq_true rfl)⟩) hK hE hA hP hD hS 0 (T := TX8) (N := 48) (ci := 8) rfl rfl [0, 8, 9] rfl (by decide) rfl rfl rfl rfl rfl rfl hl.1 (Nat.le_of_ble_eq_true rfl) dX8_openStatement_116 ⟨Nat.zero_le _, Nat.zero_le _⟩ (fun H locs hP hD hS => ?_)
    refine lv_goto (tgt := 367) hx hb dX8_openStatement_119 (by decide) ?_
    cases hM
    exact rt_v hx hb hr hlk hP hD hS rfl dX8_openStatement_367
  replace hM := if_f c9 hM
  by_cases c14 : (o_T.2.2.1 a1.toNatClampNeg) = 14
  · replace hM := if_t c14 hM
    refine lv_tableIn (tgt := 122) hx hb dX8_openStatement_6 (by rw [c14]; decide) (by rw [c14]; decide) (by rw [c14]; rfl) (by decide) ?_
    refine lv_aload_n hx hb dX8_openStatement_122 rfl (lv_at hl 0 rfl) ?_
    refine lv_iconst (v := 1) hx hb dX8_openStatement_123 (by decide) ?_
    refine lv_aload_n hx hb dX8_openStatement_124 rfl (lv_at hl 0 rfl) ?_
    refine va_get (D := D) (ci := 8) (v := .ref (ad 112)) (C := RX8) (T := TX8) (N := 48) hx hb hts layX8 hown hK hP 0 rfl rfl 21 (by decide) (hts _ (inA q999)) (fun _ h9 => h9) rfl dX8_openStatement_125 ?_
    refine lv_iload_n hx hb dX8_openStatement_128 rfl (lv_at hl 1 rfl) ?_
    obtain ⟨b15, hM⟩ := gd_use hM
    refine va_iald hx hb hK hP 5 0 rfl rfl b15 dX8_openStatement_129 ?_
    obtain ⟨r16, hcr16, hM⟩ := ob_use hM
    refine cl_V (As := [.int 1, .int (o_T.2.2.2.2.2.2.1 a1.toNatClampNeg)]) (rest := []) (wM_TI cI ad o_X o_L o_N o_T o_U o_O o_E o_Q o_V r16) [] ⟨hx, hb, hml, hown, hts⟩ (c_Model_item l D cI sd ad o_C o_X o_L o_N o_T o_U o_O o_E o_Q o_V o_I 1 (o_T.2.2.2.2.2.2.1 a1.toNatClampNeg) r16 hcr16) (cwV2 hts q1512 mvX8_item rfl rfl ⟨(Nat.le_of_ble_eq_true rfl), (Nat.le_of_ble_eq_true rfl)⟩) hK hE hA hP hD hS 0 (T := TX8) (N := 48) (ci := 8) rfl rfl [0, 8, 9] rfl (by decide) rfl rfl rfl rfl rfl rfl hl.1 (Nat.le_of_ble_eq_true rfl) dX8_openStatement_130 ⟨Nat.zero_le _, Nat.zero_le _⟩ (fun H locs hP hD hS => ?_)
    refine lv_aload_n hx hb dX8_openStatement_133 rfl (lv_at hl 0 rfl) ?_
    refine lv_iconst (v := 0) hx hb dX8_openStatement_134 (by decide) ?_
    refine lv_bipush (v := 50) hx hb dX8_openStatement_135 (by decide) ?_
    obtain ⟨r17, hcr17, hM⟩ := ob_use hM
    refine cl_V (As := [.int 0, .int 50]) (rest := []) (wM_TI cI ad o_X o_L o_N o_T o_U o_O o_E o_Q o_V r17) [] ⟨hx, hb, hml, hown, hts⟩ (c_Model_item l D cI sd ad o_C o_X o_L o_N o_T o_U o_O o_E o_Q o_V r16 0 50 r17 hcr17) (cwV2 hts q1512 mvX8_item rfl rfl ⟨(Nat.le_of_ble_eq_true rfl), (Nat.le_of_ble_eq_true rfl)⟩) hK hE hA hP hD hS 0 (T := TX8) (N := 48) (ci := 8) rfl rfl [0, 8, 9] rfl (by decide) rfl rfl rfl rfl rfl rfl hl.1 (Nat.le_of_ble_eq_true rfl) dX8_openStatement_137 ⟨Nat.zero_le _, Nat.zero_le _⟩ (fun H locs hP hD hS => ?_)
    refine lv_aload_n hx hb dX8_openStatement_140 rfl (lv_at hl 0 rfl) ?_
    refine lv_bipush (v := 8) hx hb dX8_openStatement_141 (by decide) ?_
    refine lv_aload_n hx hb dX8_openStatement_143 rfl (lv_at hl 0 rfl) ?_
    refine va_get (D := D) (ci := 8) (v := .ref (ad 110)) (C := RX8) (T := TX8) (N := 48) hx hb hts layX8 hown hK hP 0 rfl rfl 19 (by decide) (hts _ (inA q997)) (fun _ h9 => h9) rfl dX8_openStatement_144 ?_
    refine lv_iload_n hx hb dX8_openStatement_147 rfl (lv_at hl 1 rfl) ?_
    obtain ⟨b18, hM⟩ := gd_use hM
    refine va_iald hx hb hK hP 3 0 rfl rfl b18 dX8_openStatement_148 ?_
    obtain ⟨r19, hcr19, hM⟩ := ob_use hM
    refine cl_V (As := [.int 8, .int (o_T.2.2.2.2.1 a1.toNatClampNeg)]) (rest := []) (wM_TI cI ad o_X o_L o_N o_T o_U o_O o_E o_Q o_V r19) [] ⟨hx, hb, hml, hown, hts⟩ (c_Model_item l D cI sd ad o_C o_X o_L o_N o_T o_U o_O o_E o_Q o_V r17 8 (o_T.2.2.2.2.1 a1.toNatClampNeg) r19 hcr19) (cwV2 hts q1512 mvX8_item rfl rfl ⟨(Nat.le_of_ble_eq_true rfl), (Nat.le_of_ble_eq_true rfl)⟩) hK hE hA hP hD hS 0 (T := TX8) (N := 48) (ci := 8) rfl rfl [0, 8, 9] rfl (by decide) rfl rfl rfl rfl rfl rfl hl.1 (Nat.le_of_ble_eq_true rfl) dX8_openStatement_149 ⟨Nat.zero_le _, Nat.zero_le _⟩ (fun H locs hP hD hS => ?_)
    refine lv_goto (tgt := 367) hx hb dX8_openStatement_152 (by decide) ?_
    cases hM
    exact rt_v hx hb hr hlk hP hD hS rfl dX8_openStatement_367
  replace hM := if_f c14 hM
  by_cases c20 : (o_T.2.2.1 a1.toNatClampNeg) = 15
  · replace hM := if_t c20 hM
    refine lv_tableIn (tgt := 155) hx hb dX8_openStatement_6 (by rw [c20]; decide) (by rw [c20]; decide) (by rw [c20]; rfl) (by decide) ?_
    refine lv_aload_n hx hb dX8_openStatement_155 rfl (lv_at hl 0 rfl) ?_
    refine lv_iconst (v := 0) hx hb dX8_openStatement_156 (by decide) ?_
    refine lv_bipush (v := 60) hx hb dX8_openStatement_157 (by decide) ?_
    obtain ⟨r21, hcr21, hM⟩ := ob_use hM
    refine cl_V (As := [.int 0, .int 60]) (rest := []) (wM_TI cI ad o_X o_L o_N o_T o_U o_O o_E o_Q o_V r21) [] ⟨hx, hb, hml, hown, hts⟩ (c_Model_item l D cI sd ad o_C o_X o_L o_N o_T o_U o_O o_E o_Q o_V o_I 0 60 r21 hcr21) (cwV2 hts q1512 mvX8_item rfl rfl ⟨(Nat.le_of_ble_eq_true rfl), (Nat.le_of_ble_eq_true rfl)⟩) hK hE hA hP hD hS 0 (T := TX8) (N := 48) (ci := 8) rfl rfl [0, 8, 9] rfl (by decide) rfl rfl rfl rfl rfl rfl hl.1 (Nat.le_of_ble_eq_true rfl) dX8_openStatement_159 ⟨Nat.zero_le _, Nat.zero_le _⟩ (fun H locs hP hD hS => ?_)
    refine lv_aload_n hx hb dX8_openStatement_162 rfl (lv_at hl 0 rfl) ?_
    refine lv_iconst (v := 0) hx hb dX8_openStatement_163 (by decide) ?_
    refine lv_bipush (v := 20) hx hb dX8_openStatement_164 (by decide) ?_
    obtain ⟨r22, hcr22, hM⟩ := ob_use hM
    refine cl_V (As := [.int 0, .int 20]) (rest := []) (wM_TI cI ad o_X o_L o_N o_T o_U o_O o_E o_Q o_V r22) [] ⟨hx, hb, hml, hown, hts⟩ (c_Model_item l D cI sd ad o_C o_X o_L o_N o_T o_U o_O o_E o_Q o_V r21 0 20 r22 hcr22) (cwV2 hts q1512 mvX8_item rfl rfl ⟨(Nat.le_of_ble_eq_true rfl), (Nat.le_of_ble_eq_true rfl)⟩) hK hE hA hP hD hS 0 (T := TX8) (N := 48) (ci := 8) rfl rfl [0, 8, 9] rfl (by decide) rfl rfl rfl rfl rfl rfl hl.1 (Nat.le_of_ble_eq_true rfl) dX8_openStatement_166 ⟨Nat.zero_le _, Nat.zero_le _⟩ (fun H locs hP hD hS => ?_)
    refine lv_aload_n hx hb dX8_openStatement_169 rfl (lv_at hl 0 rfl) ?_
    refine lv_iconst (v := 4) hx hb dX8_openStatement_170 (by decide) ?_
    refine lv_aload_n hx hb dX8_openStatement_171 rfl (lv_at hl 0 rfl) ?_
    refine va_get (D := D) (ci := 8) (v := .ref (ad 114)) (C := RX8) (T := TX8) (N := 48) hx hb hts layX8 hown hK hP 0 rfl rfl 23 (by decide) (hts _ (inA q1001)) (fun _ h9 => h9) rfl dX8_openStatement_172 ?_
    refine lv_aload_n hx hb dX8_openStatement_175 rfl (lv_at hl 0 rfl) ?_
    refine lv_iload_n hx hb dX8_openStatement_176 rfl (lv_at hl 1 rfl) ?_
    obtain ⟨r23, hcr23, hM⟩ := ob_use hM
    refine cl_V (As := [.int a1]) (rest := [.ref (ad 114), .int 4, .ref (ad 100)]) (wM_TI cI ad o_X o_L o_N o_T o_U o_O o_E o_Q o_V r22) (.int r23 :: [.ref (ad 114), .int 4, .ref (ad 100)]) ⟨hx, hb, hml, hown, hts⟩ (c_Model_second l D cI sd ad o_C o_X o_L o_N o_U o_O o_E o_Q o_V r22 o_T a1 r23 hcr23) (cwV2 hts q1555 mvX8_second rfl rfl ⟨(Nat.le_of_ble_eq_true rfl), (Nat.le_of_ble_eq_true rfl)⟩) hK hE hA hP hD hS 0 (T := TX8) (N := 48) (ci := 8) rfl rfl [0, 1, 2, 3, 4, 5, 6, 7] rfl (by decide) (mrgE rfl rfl) rfl rfl rfl rfl rfl hl.1 (Nat.le_of_ble_eq_true rfl) dX8_openStatement_177 ⟨Nat.zero_le _, Nat.zero_le _⟩ (fun H locs hP hD hS => ?_)
    obtain ⟨b24, hM⟩ := gd_use hM
    refine va_iald hx hb hK hP 7 0 rfl rfl b24 dX8_openStatement_180 ?_
    obtain ⟨r25, hcr25, hM⟩ := ob_use hM
    refine cl_V (As := [.int 4, .int (o_T.2.2.2.2.2.2.2.2 r23.toNatClampNeg)]) (rest := []) (wM_TI cI ad o_X o_L o_N o_T o_U o_O o_E o_Q o_V r25) [] ⟨hx, hb, hml, hown, hts⟩ (c_Model_item l D cI sd ad o_C o_X o_L o_N o_T o_U o_O o_E o_Q o_V r22 4 (o_T.2.2.2.2.2.2.2.2 r23.toNatClampNeg) r25 hcr25) (cwV2 hts q1512 mvX8_item rfl rfl ⟨(Nat.le_of_ble_eq_true rfl), (Nat.le_of_ble_eq_true rfl)⟩) hK hE hA hP hD hS 0 (T := TX8) (N := 48) (ci := 8) rfl rfl [0, 8, 9] rfl (by decide) rfl rfl rfl rfl rfl rfl hl.1 (Nat.le_of_ble_eq_true rfl) dX8_openStatement_181 ⟨Nat.zero_le _, Nat.zero_le _⟩ (fun H locs hP hD hS => ?_)
    refine lv_aload_n hx hb dX8_openStatement_184 rfl (lv_at hl 0 rfl) ?_
    refine lv_iconst (v := 1) hx hb dX8_openStatement_185 (by decide) ?_
    refine lv_aload_n hx hb dX8_openStatement_186 rfl (lv_at hl 0 rfl) ?_
    refine lv_iload_n hx hb dX8_openStatement_187 rfl (lv_at hl 1 rfl) ?_
    obtain ⟨r26, hcr26, hM⟩ := ob_use hM
    refine cl_V (As := [.int a1]) (rest := [.int 1, .ref (ad 100)]) (wM_TI cI ad o_X o_L o_N o_T o_U o_O o_E o_Q o_V r25) (.int r26 :: [.int 1, .ref (ad 100)]) ⟨hx, hb, hml, hown, hts⟩ (c_Model_second l D cI sd ad o_C o_X o_L o_N o_U o_O o_E o_Q o_V r25 o_T a1 r26 hcr26) (cwV2 hts q1555 mvX8_second rfl rfl ⟨(Nat.le_of_ble_eq_true rfl), (Nat.le_of_ble_eq_true rfl)⟩) hK hE hA hP hD hS 0 (T := TX8) (N := 48) (ci := 8) rfl rfl [0, 1, 2, 3, 4, 5, 6, 7] rfl (by decide) (mrgE rfl rfl) rfl rfl rfl rfl rfl hl.1 (Nat.le_of_ble_eq_true rfl) dX8_openStatement_188 ⟨Nat.zero_le _, Nat.zero_le _⟩ (fun H locs hP hD hS => ?_)
    obtain ⟨r27, hcr27, hM⟩ := ob_use hM
    refine cl_V (As := [.int 1, .int r26]) (rest := []) (wM_TI cI ad o_X o_L o_N o_T o_U o_O o_E o_Q o_V r27) [] ⟨hx, hb, hml, hown, hts⟩ (c_Model_item l D cI sd ad o_C o_X o_L o_N o_T o_U o_O o_E o_Q o_V r25 1 r26 r27 hcr27) (cwV2 hts q1512 mvX8_item rfl rfl ⟨(Nat.le_of_ble_eq_true rfl), (Nat.le_of_ble_eq_true rfl)⟩) hK hE hA hP hD hS 0 (T := TX8) (N := 48) (ci := 8) rfl rfl [0, 8, 9] rfl (by decide) rfl rfl rfl rfl rfl rfl hl.1 (Nat.le_of_ble_eq_true rfl) dX8_openStatement_191 ⟨Nat.zero_le _, Nat.zero_le _⟩ (fun H locs hP hD hS => ?_)
    refine lv_aload_n hx hb dX8_openStatement_194 rfl (lv_at hl 0 rfl) ?_
    refine lv_iconst (v := 0) hx hb dX8_openStatement_195 (by decide) ?_
    refine lv_bipush (v := 17) hx hb dX8_openStatement_196 (by decide) ?_
    obtain ⟨r28, hcr28, hM⟩ := ob_use hM
    refine cl_V (As := [.int 0, .int 17]) (rest := []) (wM_TI cI ad o_X o_L o_N o_T o_U o_O o_E o_Q o_V r28) [] ⟨hx, hb, hml, hown, hts⟩ (c_Model_item l D cI sd ad o_C o_X o_L o_N o_T o_U o_O o_E o_Q o_V r27 0 17 r28 hcr28) (cwV2 hts q1512 mvX8_item rfl rfl ⟨(Nat.le_of_ble_eq_true rfl), (Nat.le_of_ble_eq_true rfl)⟩) hK hE hA hP hD hS 0 (T := TX8) (N := 48) (ci := 8) rfl rfl [0, 8, 9] rfl (by decide) rfl rfl rfl rfl rfl rfl hl.1 (Nat.le_of_ble_eq_true rfl) dX8_openStatement_198 ⟨Nat.zero_le _, Nat.zero_le _⟩ (fun H locs hP hD hS => ?_)
    refine lv_aload_n hx hb dX8_openStatement_201 rfl (lv_at hl 0 rfl) ?_
    refine lv_iconst (v := 1) hx hb dX8_openStatement_202 (by decide) ?_
    refine lv_aload_n hx hb dX8_openStatement_203 rfl (lv_at hl 0 rfl) ?_
    refine va_get (D := D) (ci := 8) (v := .ref (ad 112)) (C := RX8) (T := TX8) (N := 48) hx hb hts layX8 hown hK hP 0 rfl rfl 21 (by decide) (hts _ (inA q999)) (fun _ h9 => h9) rfl dX8_openStatement_204 ?_
    refine lv_iload_n hx hb dX8_openStatement_207 rfl (lv_at hl 1 rfl) ?_
    obtain ⟨b29, hM⟩ := gd_use hM
    refine va_iald hx hb hK hP 5 0 rfl rfl b29 dX8_openStatement_208 ?_
    obtain ⟨r30, hcr30, hM⟩ := ob_use hM
    refine cl_V (As := [.int 1, .int (o_T.2.2.2.2.2.2.1 a1.toNatClampNeg)]) (rest := []) (wM_TI cI ad o_X o_L o_N o_T o_U o_O o_E o_Q o_V r30) [] ⟨hx, hb, hml, hown, hts⟩ (c_Model_item l D cI sd ad o_C o_X o_L o_N o_T o_U o_O o_E o_Q o_V r28 1 (o_T.2.2.2.2.2.2.1 a1.toNatClampNeg) r30 hcr30) (cwV2 hts q1512 mvX8_item rfl rfl ⟨(Nat.le_of_ble_eq_true rfl), (Nat.le_of_ble_eq_true rfl)⟩) hK hE hA hP hD hS 0 (T := TX8) (N := 48) (ci := 8) rfl rfl [0, 8, 9] rfl (by decide) rfl rfl rfl rfl rfl rfl hl.1 (Nat.le_of_ble_eq_true rfl) dX8_openStatement_209 ⟨Nat.zero_le _, Nat.zero_le _⟩ (fun H locs hP hD hS => ?_)
    refine lv_aload_n hx hb dX8_openStatement_212 rfl (lv_at hl 0 rfl) ?_
    refine lv_iconst (v := 0) hx hb dX8_openStatement_213 (by decide) ?_
    refine lv_bipush (v := 16) hx hb dX8_openStatement_214 (by decide) ?_
    obtain ⟨r31, hcr31, hM⟩ := ob_use hM
    refine cl_V (As := [.int 0, .int 16]) (rest := []) (wM_TI cI ad o_X o_L o_N o_T o_U o_O o_E o_Q o_V r31) [] ⟨hx, hb, hml, hown, hts⟩ (c_Model_item l D cI sd ad o_C o_X o_L o_N o_T o_U o_O o_E o_Q o_V r30 0 16 r31 hcr31) (cwV2 hts q1512 mvX8_item rfl rfl ⟨(Nat.le_of_ble_eq_true rfl), (Nat.le_of_ble_eq_true rfl)⟩) hK hE hA hP hD hS 0 (T := TX8) (N := 48) (ci := 8) rfl rfl [0, 8, 9] rfl (by decide) rfl rfl rfl rfl rfl rfl hl.1 (Nat.le_of_ble_eq_true rfl) dX8_openStatement_216 ⟨Nat.zero_le _, Nat.zero_le _⟩ (fun H locs hP hD hS => ?_)
    refine lv_goto (tgt := 367) hx hb dX8_openStatement_219 (by decide) ?_
    cases hM
    exact rt_v hx hb hr hlk hP hD hS rfl dX8_openStatement_367
  replace hM := if_f c20 hM
  by_cases c32 : (o_T.2.2.1 a1.toNatClampNeg) = 16
  · replace hM := if_t c32 hM
    refine lv_tableIn (tgt := 222) hx hb dX8_openStatement_6 (by rw [c32]; decide) (by rw [c32]; decide) (by rw [c32]; rfl) (by decide) ?_
    refine lv_aload_n hx hb dX8_openStatement_222 rfl (lv_at hl 0 rfl) ?_
    refine lv_iconst (v := 0) hx hb dX8_openStatement_223 (by decide) ?_
    refine lv_bipush (v := 60) hx hb dX8_openStatement_224 (by decide) ?_
    obtain ⟨r33, hcr33, hM⟩ := ob_use hM
    refine cl_V (As := [.int 0, .int 60]) (rest := []) (wM_TI cI ad o_X o_L o_N o_T o_U o_O o_E o_Q o_V r33) [] ⟨hx, hb, hml, hown, hts⟩ (c_Model_item l D cI sd ad o_C o_X o_L o_N o_T o_U o_O o_E o_Q o_V o_I 0 60 r33 hcr33) (cwV2 hts q1512 mvX8_item rfl rfl ⟨(Nat.le_of_ble_eq_true rfl), (Nat.le_of_ble_eq_true rfl)⟩) hK hE hA hP hD hS 0 (T := TX8) (N := 48) (ci := 8) rfl rfl [0, 8, 9] rfl (by decide) rfl rfl rfl rfl rfl rfl hl.1 (Nat.le_of_ble_eq_true rfl) dX8_openStatement_226 ⟨Nat.zero_le _, Nat.zero_le _⟩ (fun H locs hP hD hS => ?_)
    refine lv_aload_n hx hb dX8_openStatement_229 rfl (lv_at hl 0 rfl) ?_
    refine lv_iconst (v := 0) hx hb dX8_openStatement_230 (by decide) ?_
    refine lv_bipush (v := 22) hx hb dX8_openStatement_231 (by decide) ?_
    obtain ⟨r34, hcr34, hM⟩ := ob_use hM
    refine cl_V (As := [.int 0, .int 22]) (rest := []) (wM_TI cI ad o_X o_L o_N o_T o_U o_O o_E o_Q o_V r34) [] ⟨hx, hb, hml, hown, hts⟩ (c_Model_item l D cI sd ad o_C o_X o_L o_N o_T o_U o_O o_E o_Q o_V r33 0 22 r34 hcr34) (cwV2 hts q1512 mvX8_item rfl rfl ⟨(Nat.le_of_ble_eq_true rfl), (Nat.le_of_ble_eq_true rfl)⟩) hK hE hA hP hD hS 0 (T := TX8) (N := 48) (ci := 8) rfl rfl [0, 8, 9] rfl (by decide) rfl rfl rfl rfl rfl rfl hl.1 (Nat.le_of_ble_eq_true rfl) dX8_openStatement_233 ⟨Nat.zero_le _, Nat.zero_le _⟩ (fun H locs hP hD hS => ?_)
    refine lv_aload_n hx hb dX8_openStatement_236 rfl (lv_at hl 0 rfl) ?_
    refine lv_iconst (v := 5) hx hb dX8_openStatement_237 (by decide) ?_
    refine lv_aload_n hx hb dX8_openStatement_238 rfl (lv_at hl 0 rfl) ?_
    refine lv_iload_n hx hb dX8_openStatement_239 rfl (lv_at hl 1 rfl) ?_
    obtain ⟨r35, hcr35, hM⟩ := ob_use hM
    refine cl_V (As := [.int a1]) (rest := [.int 5, .ref (ad 100)]) (wM_TI cI ad o_X o_L o_N o_T o_U o_O o_E o_Q o_V r34) (.int r35 :: [.int 5, .ref (ad 100)]) ⟨hx, hb, hml, hown, hts⟩ (c_Model_second l D cI sd ad o_C o_X o_L o_N o_U o_O o_E o_Q o_V r34 o_T a1 r35 hcr35) (cwV2 hts q1555 mvX8_second rfl rfl ⟨(Nat.le_of_ble_eq_true rfl), (Nat.le_of_ble_eq_true rfl)⟩) hK hE hA hP hD hS 0 (T := TX8) (N := 48) (ci := 8) rfl rfl [0, 1, 2, 3, 4, 5, 6, 7] rfl (by decide) (mrgE rfl rfl) rfl rfl rfl rfl rfl hl.1 (Nat.le_of_ble_eq_true rfl) dX8_openStatement_240 ⟨Nat.zero_le _, Nat.zero_le _⟩ (fun H locs hP hD hS => ?_)
    obtain ⟨r36, hcr36, hM⟩ := ob_use hM
    refine cl_V (As := [.int 5, .int r35]) (rest := []) (wM_TI cI ad o_X o_L o_N o_T o_U o_O o_E o_Q o_V r36) [] ⟨hx, hb, hml, hown, hts⟩ (c_Model_item l D cI sd ad o_C o_X o_L o_N o_T o_U o_O o_E o_Q o_V r34 5 r35 r36 hcr36) (cwV2 hts q1512 mvX8_item rfl rfl ⟨(Nat.le_of_ble_eq_true rfl), (Nat.le_of_ble_eq_true rfl)⟩) hK hE hA hP hD hS 0 (T := TX8) (N := 48) (ci := 8) rfl rfl [0, 8, 9] rfl (by decide) rfl rfl rfl rfl rfl rfl hl.1 (Nat.le_of_ble_eq_true rfl) dX8_openStatement_243 ⟨Nat.zero_le _, Nat.zero_le _⟩ (fun H locs hP hD hS => ?_)
    refine lv_aload_n hx hb dX8_openStatement_246 rfl (lv_at hl 0 rfl) ?_
    refine lv_iconst (v := 0) hx hb dX8_openStatement_247 (by decide) ?_
    refine lv_bipush (v := 15) hx hb dX8_openStatement_248 (by decide) ?_
    obtain ⟨r37, hcr37, hM⟩ := ob_use hM
    refine cl_V (As := [.int 0, .int 15]) (rest := []) (wM_TI cI ad o_X o_L o_N o_T o_U o_O o_E o_Q o_V r37) [] ⟨hx, hb, hml, hown, hts⟩ (c_Model_item l D cI sd ad o_C o_X o_L o_N o_T o_U o_O o_E o_Q o_V r36 0 15 r37 hcr37) (cwV2 hts q1512 mvX8_item rfl rfl ⟨(Nat.le_of_ble_eq_true rfl), (Nat.le_of_ble_eq_true rfl)⟩) hK hE hA hP hD hS 0 (T := TX8) (N := 48) (ci := 8) rfl rfl [0, 8, 9] rfl (by decide) rfl rfl rfl rfl rfl rfl hl.1 (Nat.le_of_ble_eq_true rfl) dX8_openStatement_250 ⟨Nat.zero_le _, Nat.zero_le _⟩ (fun H locs hP hD hS => ?_)
    refine lv_aload_n hx hb dX8_openStatement_253 rfl (lv_at hl 0 rfl) ?_
    refine lv_iconst (v := 1) hx hb dX8_openStatement_254 (by decide) ?_
    refine lv_aload_n hx hb dX8_openStatement_255 rfl (lv_at hl 0 rfl) ?_
    refine va_get (D := D) (ci := 8) (v := .ref (ad 112)) (C := RX8) (T := TX8) (N := 48) hx hb hts layX8 hown hK hP 0 rfl rfl 21 (by decide) (hts _ (inA q999)) (fun _ h9 => h9) rfl dX8_openStatement_256 ?_
    refine lv_iload_n hx hb dX8_openStatement_259 rfl (lv_at hl 1 rfl) ?_
    obtain ⟨b38, hM⟩ := gd_use hM
    refine va_iald hx hb hK hP 5 0 rfl rfl b38 dX8_openStatement_260 ?_
    obtain ⟨r39, hcr39, hM⟩ := ob_use hM
    refine cl_V (As := [.int 1, .int (o_T.2.2.2.2.2.2.1 a1.toNatClampNeg)]) (rest := []) (wM_TI cI ad o_X o_L o_N o_T o_U o_O o_E o_Q o_V r39) [] ⟨hx, hb, hml, hown, hts⟩ (c_Model_item l D cI sd ad o_C o_X o_L o_N o_T o_U o_O o_E o_Q o_V r37 1 (o_T.2.2.2.2.2.2.1 a1.toNatClampNeg) r39 hcr39) (cwV2 hts q1512 mvX8_item rfl rfl ⟨(Nat.le_of_ble_eq_true rfl), (Nat.le_of_ble_eq_true rfl)⟩) hK hE hA hP hD hS 0 (T := TX8) (N := 48) (ci := 8) rfl rfl [0, 8, 9] rfl (by decide) rfl rfl rfl rfl rfl rfl hl.1 (Nat.le_of_ble_eq_true rfl) dX8_openStatement_261 ⟨Nat.zero_le _, Nat.zero_le _⟩ (fun H locs hP hD hS => ?_)
    refine lv_aload_n hx hb dX8_openStatement_264 rfl (lv_at hl 0 rfl) ?_
    refine lv_iconst (v := 0) hx hb dX8_openStatement_265 (by decide) ?_
    refine lv_bipush (v := 21) hx hb dX8_openStatement_266 (by decide) ?_
    obtain ⟨r40, hcr40, hM⟩ := ob_use hM
    refine cl_V (As := [.int 0, .int 21]) (rest := []) (wM_TI cI ad o_X o_L o_N o_T o_U o_O o_E o_Q o_V r40) [] ⟨hx, hb, hml, hown, hts⟩ (c_Model_item l D cI sd ad o_C o_X o_L o_N o_T o_U o_O o_E o_Q o_V r39 0 21 r40 hcr40) (cwV2 hts q1512 mvX8_item rfl rfl ⟨(Nat.le_of_ble_eq_true rfl), (Nat.le_of_ble_eq_true rfl)⟩) hK hE hA hP hD hS 0 (T := TX8) (N := 48) (ci := 8) rfl rfl [0, 8, 9] rfl (by decide) rfl rfl rfl rfl rfl rfl hl.1 (Nat.le_of_ble_eq_true rfl) dX8_openStatement_268 ⟨Nat.zero_le _, Nat.zero_le _⟩ (fun H locs hP hD hS => ?_)
    refine lv_goto (tgt := 367) hx hb dX8_openStatement_271 (by decide) ?_
    cases hM
    exact rt_v hx hb hr hlk hP hD hS rfl dX8_openStatement_367
  replace hM := if_f c32 hM
  by_cases c41 : (o_T.2.2.1 a1.toNatClampNeg) = 17
  · replace hM := if_t c41 hM
    refine lv_tableIn (tgt := 274) hx hb dX8_openStatement_6 (by rw [c41]; decide) (by rw [c41]; decide) (by rw [c41]; rfl) (by decide) ?_
    refine lv_aload_n hx hb dX8_openStatement_274 rfl (lv_at hl 0 rfl) ?_
    refine lv_bipush (v := 6) hx hb dX8_openStatement_275 (by decide) ?_
    refine lv_aload_n hx hb dX8_openStatement_277 rfl (lv_at hl 0 rfl) ?_
    refine va_get (D := D) (ci := 8) (v := .ref (ad 112)) (C := RX8) (T := TX8) (N := 48) hx hb hts layX8 hown hK hP 0 rfl rfl 21 (by decide) (hts _ (inA q999)) (fun _ h9 => h9) rfl dX8_openStatement_278 ?_
    refine lv_iload_n hx hb dX8_openStatement_281 rfl (lv_at hl 1 rfl) ?_
    obtain ⟨b42, hM⟩ := gd_use hM
    refine va_iald hx hb hK hP 5 0 rfl rfl b42 dX8_openStatement_282 ?_
    obtain ⟨r43, hcr43, hM⟩ := ob_use hM
    refine cl_V (As := [.int 6, .int (o_T.2.2.2.2.2.2.1 a1.toNatClampNeg)]) (rest := []) (wM_TI cI ad o_X o_L o_N o_T o_U o_O o_E o_Q o_V r43) [] ⟨hx, hb, hml, hown, hts⟩ (c_Model_item l D cI sd ad o_C o_X o_L o_N o_T o_U o_O o_E o_Q o_V o_I 6 (o_T.2.2.2.2.2.2.1 a1.toNatClampNeg) r43 hcr43) (cwV2 hts q1512 mvX8_item rfl rfl ⟨(Nat.le_of_ble_eq_true rfl), (Nat.le_of_ble_eq_true rfl)⟩) hK hE hA hP hD hS 0 (T := TX8) (N := 48) (ci := 8) rfl rfl [0, 8, 9] rfl (by decide) rfl rfl rfl rfl rfl rfl hl.1 (Nat.le_of_ble_eq_true rfl) dX8_openStatement_283 ⟨Nat.zero_le _, Nat.zero_le _⟩ (fun H locs hP hD hS => ?_)
    refine lv_goto (tgt := 367) hx hb dX8_openStatement_286 (by decide) ?_
    cases hM
    exact rt_v hx hb hr hlk hP hD hS rfl dX8_openStatement_367
  replace hM := if_f c41 hM
  by_cases c44 : (o_T.2.2.1 a1.toNatClampNeg) = 18
  · replace hM := if_t c44 hM
    refine lv_tableIn (tgt := 289) hx hb dX8_openStatement_6 (by rw [c44]; decide) (by rw [c44]; decide) (by rw [c44]; rfl) (by decide) ?_
    refine lv_aload_n hx hb dX8_openStatement_289 rfl (lv_at hl 0 rfl) ?_
    refine lv_iload_n hx hb dX8_openStatement_290 rfl (lv_at hl 1 rfl) ?_
    obtain ⟨r45, hcr45, hM⟩ := ob_use hM
    refine cl_V (As := [.int a1]) (rest := []) (wM_TI cI ad o_X o_L o_N o_T o_U o_O o_E o_Q o_V o_I) (.int r45 :: []) ⟨hx, hb, hml, hown, hts⟩ (c_Model_second l D cI sd ad o_C o_X o_L o_N o_U o_O o_E o_Q o_V o_I o_T a1 r45 hcr45) (cwV2 hts q1555 mvX8_second rfl rfl ⟨(Nat.le_of_ble_eq_true rfl), (Nat.le_of_ble_eq_true rfl)⟩) hK hE hA hP hD hS 0 (T := TX8) (N := 48) (ci := 8) rfl rfl [0, 1, 2, 3, 4, 5, 6, 7] rfl (by decide) (mrgE rfl rfl) rfl rfl rfl rfl rfl hl.1 (Nat.le_of_ble_eq_true rfl) dX8_openStatement_291 ⟨Nat.zero_le _, Nat.zero_le _⟩ (fun H locs hP hD hS => ?_)
    refine lv_iconst (v := (-1)) hx hb dX8_openStatement_294 (by decide) ?_
    refine lv_icmp_eq (tgt := 315) hx hb dX8_openStatement_295 (by decide) (fun c46 => ?_) (fun c46 => ?_)
    · replace hM := if_t c46 hM
      refine lv_aload_n hx hb dX8_openStatement_315 rfl (lv_at hl 0 rfl) ?_
      refine lv_iconst (v := 1) hx hb dX8_openStatement_316 (by decide) ?_
      refine lv_aload_n hx hb dX8_openStatement_317 rfl (lv_at hl 0 rfl) ?_
      refine va_get (D := D) (ci := 8) (v := .ref (ad 112)) (C := RX8) (T := TX8) (N := 48) hx hb hts layX8 hown hK hP 0 rfl rfl 21 (by decide) (hts _ (inA q999)) (fun _ h9 => h9) rfl dX8_openStatement_318 ?_
      refine lv_iload_n hx hb dX8_openStatement_321 rfl (lv_at hl 1 rfl) ?_
      obtain ⟨b47, hM⟩ := gd_use hM
      refine va_iald hx hb hK hP 5 0 rfl rfl b47 dX8_openStatement_322 ?_
      obtain ⟨r48, hcr48, hM⟩ := ob_use hM
      refine cl_V (As := [.int 1, .int (o_T.2.2.2.2.2.2.1 a1.toNatClampNeg)]) (rest := []) (wM_TI cI ad o_X o_L o_N o_T o_U o_O o_E o_Q o_V r48) [] ⟨hx, hb, hml, hown, hts⟩ (c_Model_item l D cI sd ad o_C o_X o_L o_N o_T o_U o_O o_E o_Q o_V o_I 1 (o_T.2.2.2.2.2.2.1 a1.toNatClampNeg) r48 hcr48) (cwV2 hts q1512 mvX8_item rfl rfl ⟨(Nat.le_of_ble_eq_true rfl), (Nat.le_of_ble_eq_true rfl)⟩) hK hE hA hP hD hS 0 (T := TX8) (N := 48) (ci := 8) rfl rfl [0, 8, 9] rfl (by decide) rfl rfl rfl rfl rfl rfl hl.1 (Nat.le_of_ble_eq_true rfl) dX8_openStatement_323 ⟨Nat.zero_le _, Nat.zero_le _⟩ (fun H locs hP hD hS => ?_)
      refine lv_goto (tgt := 367) hx hb dX8_openStatement_326 (by decide) ?_
      cases hM
      exact rt_v hx hb hr hlk hP hD hS rfl dX8_openStatement_367
    · replace hM := if_f c46 hM
      refine lv_aload_n hx hb dX8_openStatement_298 rfl (lv_at hl 0 rfl) ?_
      refine lv_iconst (v := 1) hx hb dX8_openStatement_299 (by decide) ?_
      refine lv_aload_n hx hb dX8_openStatement_300 rfl (lv_at hl 0 rfl) ?_
      refine lv_iload_n hx hb dX8_openStatement_301 rfl (lv_at hl 1 rfl) ?_
      obtain ⟨r49, hcr49, hM⟩ := ob_use hM
      refine cl_V (As := [.int a1]) (rest := [.int 1, .ref (ad 100)]) (wM_TI cI ad o_X o_L o_N o_T o_U o_O o_E o_Q o_V o_I) (.int r49 :: [.int 1, .ref (ad 100)]) ⟨hx, hb, hml, hown, hts⟩ (c_Model_second l D cI sd ad o_C o_X o_L o_N o_U o_O o_E o_Q o_V o_I o_T a1 r49 hcr49) (cwV2 hts q1555 mvX8_second rfl rfl ⟨(Nat.le_of_ble_eq_true rfl), (Nat.le_of_ble_eq_true rfl)⟩) hK hE hA hP hD hS 0 (T := TX8) (N := 48) (ci := 8) rfl rfl [0, 1, 2, 3, 4, 5, 6, 7] rfl (by decide) (mrgE rfl rfl) rfl rfl rfl rfl rfl hl.1 (Nat.le_of_ble_eq_true rfl) dX8_openStatement_302 ⟨Nat.zero_le _, Nat.zero_le _⟩ (fun H locs hP hD hS => ?_)
      obtain ⟨r50, hcr50, hM⟩ := ob_use hM
      refine cl_V (As := [.int 1, .int r49]) (rest := []) (wM_TI cI ad o_X o_L o_N o_T o_U o_O o_E o_Q o_V r50) [] ⟨hx, hb, hml, hown, hts⟩ (c_Model_item l D cI sd ad o_C o_X o_L o_N o_T o_U o_O o_E o_Q o_V o_I 1 r49 r50 hcr50) (cwV2 hts q1512 mvX8_item rfl rfl ⟨(Nat.le_of_ble_eq_true rfl), (Nat.le_of_ble_eq_true rfl)⟩) hK hE hA hP hD hS 0 (T := TX8) (N := 48) (ci := 8) rfl rfl [0, 8, 9] rfl (by decide) rfl rfl rfl rfl rfl rfl hl.1 (Nat.le_of_ble_eq_true rfl) dX8_openStatement_305 ⟨Nat.zero_le _, Nat.zero_le _⟩ (fun H locs hP hD hS => ?_)
      refine lv_aload_n hx hb dX8_openStatement_308 rfl (lv_at hl 0 rfl) ?_
      refine lv_iconst (v := 0) hx hb dX8_openStatement_309 (by decide) ?_
      refine lv_bipush (v := 51) hx hb dX8_openStatement_310 (by decide) ?_
      obtain ⟨r51, hcr51, hM⟩ := ob_use hM
      refine cl_V (As := [.int 0, .int 51]) (rest := []) (wM_TI cI ad o_X o_L o_N o_T o_U o_O o_E o_Q o_V r51) [] ⟨hx, hb, hml, hown, hts⟩ (c_Model_item l D cI sd ad o_C o_X o_L o_N o_T o_U o_O o_E o_Q o_V r50 0 51 r51 hcr51) (cwV2 hts q1512 mvX8_item rfl rfl ⟨(Nat.le_of_ble_eq_true rfl), (Nat.le_of_ble_eq_true rfl)⟩) hK hE hA hP hD hS 0 (T := TX8) (N := 48) (ci := 8) rfl rfl [0, 8, 9] rfl (by decide) rfl rfl rfl rfl rfl rfl hl.1 (Nat.le_of_ble_eq_true rfl) dX8_openStatement_312 ⟨Nat.zero_le _, Nat.zero_le _⟩ (fun H locs hP hD hS => ?_)
      refine lv_aload_n hx hb dX8_openStatement_315 rfl (lv_at hl 0 rfl) ?_
      refine lv_iconst (v := 1) hx hb dX8_openStatement_316 (by decide) ?_
      refine lv_aload_n hx hb dX8_openStatement_317 rfl (lv_at hl 0 rfl) ?_
      refine va_get (D := D) (ci := 8) (v := .ref (ad 112)) (C := RX8) (T := TX8) (N := 48) hx hb hts layX8 hown hK hP 0 rfl rfl 21 (by decide) (hts _ (inA q999)) (fun _ h9 => h9) rfl dX8_openStatement_318 ?_
      refine lv_iload_n hx hb dX8_openStatement_321 rfl (lv_at hl 1 rfl) ?_
      obtain ⟨b52, hM⟩ := gd_use hM
      refine va_iald hx hb hK hP 5 0 rfl rfl b52 dX8_openStatement_322 ?_
      obtain ⟨r53, hcr53, hM⟩ := ob_use hM
      refine cl_V (As := [.int 1, .int (o_T.2.2.2.2.2.2.1 a1.toNatClampNeg)]) (rest := []) (wM_TI cI ad o_X o_L o_N o_T o_U o_O o_E o_Q o_V r53) [] ⟨hx, hb, hml, hown, hts⟩ (c_Model_item l D cI sd ad o_C o_X o_L o_N o_T o_U o_O o_E o_Q o_V r51 1 (o_T.2.2.2.2.2.2.1 a1.toNatClampNeg) r53 hcr53) (cwV2 hts q1512 mvX8_item rfl rfl ⟨(Nat.le_of_ble_eq_true rfl), (Nat.le_of_ble_eq_true rfl)⟩) hK hE hA hP hD hS 0 (T := TX8) (N := 48) (ci := 8) rfl rfl [0, 8, 9] rfl (by decide) rfl rfl rfl rfl rfl rfl hl.1 (Nat.le_of_ble_eq_true rfl) dX8_openStatement_323 ⟨Nat.zero_le _, Nat.zero_le _⟩ (fun H locs hP hD hS => ?_)
      refine lv_goto (tgt := 367) hx hb dX8_openStatement_326 (by decide) ?_
      cases hM
      exact rt_v hx hb hr hlk hP hD hS rfl dX8_openStatement_367
  replace hM := if_f c44 hM
  by_cases c54 : (o_T.2.2.1 a1.toNatClampNeg) = 19
  · replace hM := if_t c54 hM
    refine lv_tableIn (tgt := 329) hx hb dX8_openStatement_6 (by rw [c54]; decide) (by rw [c54]; decide) (by rw [c54]; rfl) (by decide) ?_
    refine lv_aload_n hx hb dX8_openStatement_329 rfl (lv_at hl 0 rfl) ?_
    refine lv_iload_n hx hb dX8_openStatement_330 rfl (lv_at hl 1 rfl) ?_
    obtain ⟨r55, hcr55, hM⟩ := ob_use hM
    refine cl_V (As := [.int a1]) (rest := []) (wM_TI cI ad o_X o_L o_N o_T o_U o_O o_E o_Q o_V r55) [] ⟨hx, hb, hml, hown, hts⟩ (c_Model_itemFor l D cI sd ad o_C o_X o_L o_N o_U o_O o_E o_Q o_V o_T o_I a1 r55 hcr55) (cwV2 hts q1575 mvX8_itemFor rfl rfl ⟨(Nat.le_of_ble_eq_true rfl), (Nat.le_of_ble_eq_true rfl)⟩) hK hE hA hP hD hS 0 (T := TX8) (N := 48) (ci := 8) rfl rfl [0, 1, 2, 3, 4, 5, 6, 7, 8, 9] (rng_hi (n := 10) rfl rfl) (by decide) (rng_rep (n := 10) rfl rfl rfl) rfl rfl rfl rfl rfl hl.1 (Nat.le_of_ble_eq_true rfl) dX8_openStatement_331 ⟨Nat.zero_le _, Nat.zero_le _⟩ (fun H locs hP hD hS => ?_)
    refine lv_goto (tgt := 367) hx hb dX8_openStatement_334 (by decide) ?_
    cases hM
    exact rt_v hx hb hr hlk hP hD hS rfl dX8_openStatement_367
  replace hM := if_f c54 hM
  refine lv_tableOut (tgt := 337) hx hb dX8_openStatement_6 (by have := lv_neT c2 (show (12 : Int32).toInt = 12 by decide); have := lv_neT c9 (show (13 : Int32).toInt = 13 by decide); have := lv_neT c14 (show (14 : Int32).toInt = 14 by decide); have := lv_neT c20 (show (15 : Int32).toInt = 15 by decide); have := lv_neT c32 (show (16 : Int32).toInt = 16 by decide); have := lv_neT c41 (show (17 : Int32).toInt = 17 by decide); have := lv_neT c44 (show (18 : Int32).toInt = 18 by decide); have := lv_neT c54 (show (19 : Int32).toInt = 19 by decide); omega) (by decide) ?_
  refine lv_aload_n hx hb dX8_openStatement_337 rfl (lv_at hl 0 rfl) ?_
  refine lv_iconst (v := 0) hx hb dX8_openStatement_338 (by decide) ?_
  refine lv_bipush (v := 60) hx hb dX8_openStatement_339 (by decide) ?_
  obtain ⟨r56, hcr56, hM⟩ := ob_use hM
  refine cl_V (As := [.int 0, .int 60]) (rest := []) (wM_TI cI ad o_X o_L o_N o_T o_U o_O o_E o_Q o_V r56) [] ⟨hx, hb, hml, hown, hts⟩ (c_Model_item l D cI sd ad o_C o_X o_L o_N o_T o_U o_O o_E o_Q o_V o_I 0 60 r56 hcr56) (cwV2 hts q1512 mvX8_item rfl rfl ⟨(Nat.le_of_ble_eq_true rfl), (Nat.le_of_ble_eq_true rfl)⟩) hK hE hA hP hD hS 0 (T := TX8) (N := 48) (ci := 8) rfl rfl [0, 8, 9] rfl (by decide) rfl rfl rfl rfl rfl rfl hl.1 (Nat.le_of_ble_eq_true rfl) dX8_openStatement_341 ⟨Nat.zero_le _, Nat.zero_le _⟩ (fun H locs hP hD hS => ?_)
  refine lv_aload_n hx hb dX8_openStatement_344 rfl (lv_at hl 0 rfl) ?_
  refine lv_iconst (v := 0) hx hb dX8_openStatement_345 (by decide) ?_
  refine lv_aload_n hx hb dX8_openStatement_346 rfl (lv_at hl 0 rfl) ?_
  refine va_get (D := D) (ci := 8) (v := .ref (ad 108)) (C := RX8) (T := TX8) (N := 48) hx hb hts layX8 hown hK hP 0 rfl rfl 17 (by decide) (hts _ (inA q995)) (fun _ h9 => h9) rfl dX8_openStatement_347 ?_
  refine lv_iload_n hx hb dX8_openStatement_350 rfl (lv_at hl 1 rfl) ?_
  obtain ⟨b57, hM⟩ := gd_use hM
  refine va_iald hx hb hK hP 1 0 rfl rfl b57 dX8_openStatement_351 ?_
  refine lv_bipush (v := 20) hx hb dX8_openStatement_352 (by decide) ?_
  refine lv_icmp_ne (tgt := 362) hx hb dX8_openStatement_354 (by decide) (fun c58 => ?_) (fun c58 => ?_)
  · replace hM := if_f c58 hM
    refine lv_bipush (v := 29) hx hb dX8_openStatement_362 (by decide) ?_
    obtain ⟨r59, hcr59, hM⟩ := ob_use hM
    refine cl_V (As := [.int 0, .int 29]) (rest := []) (wM_TI cI ad o_X o_L o_N o_T o_U o_O o_E o_Q o_V r59) [] ⟨hx, hb, hml, hown, hts⟩ (c_Model_item l D cI sd ad o_C o_X o_L o_N o_T o_U o_O o_E o_Q o_V r56 0 29 r59 hcr59) (cwV2 hts q1512 mvX8_item rfl rfl ⟨(Nat.le_of_ble_eq_true rfl), (Nat.le_of_ble_eq_true rfl)⟩) hK hE hA hP hD hS 0 (T := TX8) (N := 48) (ci := 8) rfl rfl [0, 8, 9] rfl (by decide) rfl rfl rfl rfl rfl rfl hl.1 (Nat.le_of_ble_eq_true rfl) dX8_openStatement_364 ⟨Nat.zero_le _, Nat.zero_le _⟩ (fun H locs hP hD hS => ?_)
    cases hM
    exact rt_v hx hb hr hlk hP hD hS rfl dX8_openStatement_367
  · replace hM := if_t c58 hM
    refine lv_bipush (v := 28) hx hb dX8_openStatement_357 (by decide) ?_
    refine lv_goto (tgt := 364) hx hb dX8_openStatement_359 (by decide) ?_
    obtain ⟨r60, hcr60, hM⟩ := ob_use hM
    refine cl_V (As := [.int 0, .int 28]) (rest := []) (wM_TI cI ad o_X o_L o_N o_T o_U o_O o_E o_Q o_V r60) [] ⟨hx, hb, hml, hown, hts⟩ (c_Model_item l D cI sd ad o_C o_X o_L o_N o_T o_U o_O o_E o_Q o_V r56 0 28 r60 hcr60) (cwV2 hts q1512 mvX8_item rfl rfl ⟨(Nat.le_of_ble_eq_true rfl), (Nat.le_of_ble_eq_true rfl)⟩) hK hE hA hP hD hS 0 (T := TX8) (N := 48) (ci := 8) rfl rfl [0, 8, 9] rfl (by decide) rfl rfl rfl rfl rfl rfl hl.1 (Nat.le_of_ble_eq_true rfl) dX8_openStatement_364 ⟨Nat.zero_le _, Nat.zero_le _⟩ (fun H locs hP hD hS => ?_)
    cases hM
    exact rt_v hx hb hr hlk hP hD hS rfl dX8_openStatement_367

set_option maxHeartbeats 4000000 in
set_option maxRecDepth 100000 in
theorem c_Model_openOperand (l : Launch) (D : va_G) (cI : ClassId) (sd : Nat → Nat) (ad : Nat → Nat) (o_X : S_MX) (o_L : S_ML) (o_N : S_MN) (o_U : S_MU) (o_O : S_MO) (o_E : S_ME) (o_Q : S_MQ) (o_C : S_MC) (o_T : S_MT) (o_V : S_MV) (o_I : S_MI) (a1 : Int32) (res : S_MV × S_MI) (hM : f_Model_openOperand o_C o_T o_V o_I a1 = some res) : Ctr l D cI sd yX8_openOperand (wsM yX8_openOperand cX8_openOperand 2 (Option.none : Option Jvm.ClassFile.FieldType)) { frames := 4, cells := 0, slots := 0, locals := 86 } [.ref (ad 100), .int a1] (wM_CTVI cI ad o_X o_L o_N o_T o_U o_O o_E o_Q o_V o_I o_C) (wM_CTVI cI ad o_X o_L o_N o_T o_U o_O o_E o_Q res.1 res.2 o_C) none := by
  refine Ctr.of (cc := cX8_openOperand) (maxL := 2) (own := RX8) (by decide +kernel) rfl rfl (Nat.le_of_ble_eq_true rfl) ?_
  intro p e s m below meth c A ls hx hb hr hml hown hts hlk hK hE hA hP hD hS hl
  have hl : lv_has ls 2 [(0, .ref (ad 100)), (1, .int a1)] := hl
  unfold f_Model_openOperand at hM
  refine lv_aload_n hx hb dX8_openOperand_0 rfl (lv_at hl 0 rfl) ?_
  refine va_get (D := D) (ci := 8) (v := .ref (ad 108)) (C := RX8) (T := TX8) (N := 48) hx hb hts layX8 hown hK hP 0 rfl rfl 17 (by decide) (hts _ (inA q995)) (fun _ h9 => h9) rfl dX8_openOperand_1 ?_
  refine lv_iload_n hx hb dX8_openOperand_4 rfl (lv_at hl 1 rfl) ?_
  obtain ⟨b1, hM⟩ := gd_use hM
  refine va_iald hx hb hK hP 5 0 rfl rfl b1 dX8_openOperand_5 ?_
  by_cases c2 : (o_T.2.2.1 a1.toNatClampNeg) = 30
  · replace hM := if_t c2 hM
    refine lv_tableIn (tgt := 44) hx hb dX8_openOperand_6 (by rw [c2]; decide) (by rw [c2]; decide) (by rw [c2]; rfl) (by decide) ?_
    refine lv_aload_n hx hb dX8_openOperand_44 rfl (lv_at hl 0 rfl) ?_
    refine lv_aload_n hx hb dX8_openOperand_45 rfl (lv_at hl 0 rfl) ?_
    refine va_get (D := D) (ci := 8) (v := .ref (ad 110)) (C := RX8) (T := TX8) (N := 48) hx hb hts layX8 hown hK hP 0 rfl rfl 19 (by decide) (hts _ (inA q997)) (fun _ h9 => h9) rfl dX8_openOperand_46 ?_
    refine lv_iload_n hx hb dX8_openOperand_49 rfl (lv_at hl 1 rfl) ?_
    obtain ⟨b3, hM⟩ := gd_use hM
    refine va_iald hx hb hK hP 7 0 rfl rfl b3 dX8_openOperand_50 ?_
    obtain ⟨r4, hcr4, hM⟩ := ob_use hM
    refine cl_V (As := [.int (o_T.2.2.2.2.1 a1.toNatClampNeg)]) (rest := []) (wM_CTVI cI ad o_X o_L o_N o_T o_U o_O o_E o_Q r4 o_I o_C) [] ⟨hx, hb, hml, hown, hts⟩ (c_Model_putNumber l D cI sd ad o_C o_X o_L o_N o_T o_U o_O o_E o_Q o_I o_V (o_T.2.2.2.2.1 a1.toNatClampNeg) r4 hcr4) (cwV2 hts q1587 mvX8_putNumber rfl rfl ⟨(Nat.le_of_ble_eq_true rfl), (Nat.le_of_ble_eq_true rfl)⟩) hK hE hA hP hD hS 0 (T := TX8) (N := 48) (ci := 8) rfl rfl [0, 12] rfl (by decide) rfl rfl rfl rfl rfl rfl hl.1 (Nat.le_of_ble_eq_true rfl) dX8_openOperand_51 ⟨Nat.zero_le _, Nat.zero_le _⟩ (fun H locs hP hD hS => ?_)
    refine lv_goto (tgt := 228) hx hb dX8_openOperand_54 (by decide) ?_
    cases hM
    exact rt_v hx hb hr hlk hP hD hS rfl dX8_openOperand_228
  replace hM := if_f c2 hM
  by_cases c5 : (o_T.2.2.1 a1.toNatClampNeg) = 31
  · replace hM := if_t c5 hM
    refine lv_tableIn (tgt := 57) hx hb dX8_openOperand_6 (by rw [c5]; decide) (by rw [c5]; decide) (by rw [c5]; rfl) (by decide) ?_
    refine lv_aload_n hx hb dX8_openOperand_57 rfl (lv_at hl 0 rfl) ?_
    refine lv_aload_n hx hb dX8_openOperand_58 rfl (lv_at hl 0 rfl) ?_
    refine va_get (D := D) (ci := 8) (v := .ref (ad 110)) (C := RX8) (T := TX8) (N := 48) hx hb hts layX8 hown hK hP 0 rfl rfl 19 (by decide) (hts _ (inA q997)) (fun _ h9 => h9) rfl dX8_openOperand_59 ?_
    refine lv_iload_n hx hb dX8_openOperand_62 rfl (lv_at hl 1 rfl) ?_
    obtain ⟨b6, hM⟩ := gd_use hM
    refine va_iald hx hb hK hP 7 0 rfl rfl b6 dX8_openOperand_63 ?_
    refine lv_iconst (v := 1) hx hb dX8_openOperand_64 (by decide) ?_
    refine lv_icmp_ne (tgt := 73) hx hb dX8_openOperand_65 (by decide) (fun c7 => ?_) (fun c7 => ?_)
    · replace hM := if_f c7 hM
      refine lv_bipush (v := 36) hx hb dX8_openOperand_73 (by decide) ?_
      obtain ⟨r8, hcr8, hM⟩ := ob_use hM
      refine cl_V (As := [.int 36]) (rest := []) (wM_CTVI cI ad o_X o_L o_N o_T o_U o_O o_E o_Q r8 o_I o_C) [] ⟨hx, hb, hml, hown, hts⟩ (c_Model_putToken l D cI sd ad o_X o_L o_N o_T o_U o_O o_E o_Q o_I o_C o_V 36 r8 hcr8) (cwV2 hts q1520 mvX8_putToken rfl rfl ⟨(Nat.le_of_ble_eq_true rfl), (Nat.le_of_ble_eq_true rfl)⟩) hK hE hA hP hD hS 0 (T := TX8) (N := 48) (ci := 8) rfl rfl [0, 1, 2, 3, 4, 12] rfl (by decide) (mrgE rfl rfl) rfl rfl rfl rfl rfl hl.1 (Nat.le_of_ble_eq_true rfl) dX8_openOperand_75 ⟨Nat.zero_le _, Nat.zero_le _⟩ (fun H locs hP hD hS => ?_)
      refine lv_goto (tgt := 228) hx hb dX8_openOperand_78 (by decide) ?_
      cases hM
      exact rt_v hx hb hr hlk hP hD hS rfl dX8_openOperand_228
    · replace hM := if_t c7 hM
      refine lv_bipush (v := 35) hx hb dX8_openOperand_68 (by decide) ?_
      refine lv_goto (tgt := 75) hx hb dX8_openOperand_70 (by decide) ?_
      obtain ⟨r9, hcr9, hM⟩ := ob_use hM
      refine cl_V (As := [.int 35]) (rest := []) (wM_CTVI cI ad o_X o_L o_N o_T o_U o_O o_E o_Q r9 o_I o_C) [] ⟨hx, hb, hml, hown, hts⟩ (c_Model_putToken l D cI sd ad o_X o_L o_N o_T o_U o_O o_E o_Q o_I o_C o_V 35 r9 hcr9) (cwV2 hts q1520 mvX8_putToken rfl rfl ⟨(Nat.le_of_ble_eq_true rfl), (Nat.le_of_ble_eq_true rfl)⟩) hK hE hA hP hD hS 0 (T := TX8) (N := 48) (ci := 8) rfl rfl [0, 1, 2, 3, 4, 12] rfl (by decide) (mrgE rfl rfl) rfl rfl rfl rfl rfl hl.1 (Nat.le_of_ble_eq_true rfl) dX8_openOperand_75 ⟨Nat.zero_le _, Nat.zero_le _⟩ (fun H locs hP hD hS => ?_)
      refine lv_goto (tgt := 228) hx hb dX8_openOperand_78 (by decide) ?_
      cases hM
      exact rt_v hx hb hr hlk hP hD hS rfl dX8_openOperand_228
  replace hM := if_f c5 hM
  by_cases c10 : (o_T.2.2.1 a1.toNatClampNeg) = 32
  · replace hM := if_t c10 hM
    refine lv_tableIn (tgt := 81) hx hb dX8_openOperand_6 (by rw [c10]; decide) (by rw [c10]; decide) (by rw [c10]; rfl) (by decide) ?_
    refine lv_aload_n hx hb dX8_openOperand_81 rfl (lv_at hl 0 rfl) ?_
    refine lv_bipush (v := 58) hx hb dX8_openOperand_82 (by decide) ?_
    refine lv_iconst (v := 1) hx hb dX8_openOperand_84 (by decide) ?_
    refine lv_iload_n hx hb dX8_openOperand_85 rfl (lv_at hl 1 rfl) ?_
    refine lv_bipush (v := 57) hx hb dX8_openOperand_86 (by decide) ?_
    obtain ⟨r11, hcr11, hM⟩ := ob_use hM
    refine cl_V (As := [.int 58, .int 1, .int a1, .int 57]) (rest := []) (wM_CTVI cI ad o_X o_L o_N o_T o_U o_O o_E o_Q o_V r11 o_C) [] ⟨hx, hb, hml, hown, hts⟩ (c_Model_itemAll l D cI sd ad o_C o_X o_L o_N o_U o_O o_E o_Q o_V o_T o_I 58 1 a1 57 r11 hcr11) (cwV2 hts q1559 mvX8_itemAll rfl rfl ⟨(Nat.le_of_ble_eq_true rfl), (Nat.le_of_ble_eq_true rfl)⟩) hK hE hA hP hD hS 0 (T := TX8) (N := 48) (ci := 8) rfl rfl [0, 5, 6, 7, 8, 9, 10, 11, 13, 14] rfl (by decide) (mrgE rfl rfl) rfl rfl rfl rfl rfl hl.1 (Nat.le_of_ble_eq_true rfl) dX8_openOperand_88 ⟨Nat.zero_le _, Nat.zero_le _⟩ (fun H locs hP hD hS => ?_)
    refine lv_aload_n hx hb dX8_openOperand_91 rfl (lv_at hl 0 rfl) ?_
    refine lv_bipush (v := 8) hx hb dX8_openOperand_92 (by decide) ?_
    refine lv_aload_n hx hb dX8_openOperand_94 rfl (lv_at hl 0 rfl) ?_
    refine va_get (D := D) (ci := 8) (v := .ref (ad 110)) (C := RX8) (T := TX8) (N := 48) hx hb hts layX8 hown hK hP 0 rfl rfl 19 (by decide) (hts _ (inA q997)) (fun _ h9 => h9) rfl dX8_openOperand_95 ?_
    refine lv_iload_n hx hb dX8_openOperand_98 rfl (lv_at hl 1 rfl) ?_
    obtain ⟨b12, hM⟩ := gd_use hM
    refine va_iald hx hb hK hP 7 0 rfl rfl b12 dX8_openOperand_99 ?_
    obtain ⟨r13, hcr13, hM⟩ := ob_use hM
    refine cl_V (As := [.int 8, .int (o_T.2.2.2.2.1 a1.toNatClampNeg)]) (rest := []) (wM_CTVI cI ad o_X o_L o_N o_T o_U o_O o_E o_Q o_V r13 o_C) [] ⟨hx, hb, hml, hown, hts⟩ (c_Model_item l D cI sd ad o_C o_X o_L o_N o_T o_U o_O o_E o_Q o_V r11 8 (o_T.2.2.2.2.1 a1.toNatClampNeg) r13 hcr13) (cwV2 hts q1512 mvX8_item rfl rfl ⟨(Nat.le_of_ble_eq_true rfl), (Nat.le_of_ble_eq_true rfl)⟩) hK hE hA hP hD hS 0 (T := TX8) (N := 48) (ci := 8) rfl rfl [0, 13, 14] rfl (by decide) rfl rfl rfl rfl rfl rfl hl.1 (Nat.le_of_ble_eq_true rfl) dX8_openOperand_100 ⟨Nat.zero_le _, Nat.zero_le _⟩ (fun H locs hP hD hS => ?_)
    refine lv_goto (tgt := 228) hx hb dX8_openOperand_103 (by decide) ?_
    cases hM
    exact rt_v hx hb hr hlk hP hD hS rfl dX8_openOperand_228
  replace hM := if_f c10 hM
  by_cases c14 : (o_T.2.2.1 a1.toNatClampNeg) = 33
  · replace hM := if_t c14 hM
    refine lv_tableIn (tgt := 106) hx hb dX8_openOperand_6 (by rw [c14]; decide) (by rw [c14]; decide) (by rw [c14]; rfl) (by decide) ?_
    refine lv_aload_n hx hb dX8_openOperand_106 rfl (lv_at hl 0 rfl) ?_
    refine lv_iconst (v := (-1)) hx hb dX8_openOperand_107 (by decide) ?_
    refine lv_iconst (v := 1) hx hb dX8_openOperand_108 (by decide) ?_
    refine lv_iload_n hx hb dX8_openOperand_109 rfl (lv_at hl 1 rfl) ?_
    refine lv_bipush (v := 62) hx hb dX8_openOperand_110 (by decide) ?_
    obtain ⟨r15, hcr15, hM⟩ := ob_use hM
    refine cl_V (As := [.int (-1), .int 1, .int a1, .int 62]) (rest := []) (wM_CTVI cI ad o_X o_L o_N o_T o_U o_O o_E o_Q o_V r15 o_C) [] ⟨hx, hb, hml, hown, hts⟩ (c_Model_itemAll l D cI sd ad o_C o_X o_L o_N o_U o_O o_E o_Q o_V o_T o_I (-1) 1 a1 62 r15 hcr15) (cwV2 hts q1559 mvX8_itemAll rfl rfl ⟨(Nat.le_of_ble_eq_true rfl), (Nat.le_of_ble_eq_true rfl)⟩) hK hE hA hP hD hS 0 (T := TX8) (N := 48) (ci := 8) rfl rfl [0, 5, 6, 7, 8, 9, 10, 11, 13, 14] rfl (by decide) (mrgE rfl rfl) rfl rfl rfl rfl rfl hl.1 (Nat.le_of_ble_eq_true rfl) dX8_openOperand_112 ⟨Nat.zero_le _, Nat.zero_le _⟩ (fun H locs hP hD hS => ?_)
    refine lv_aload_n hx hb dX8_openOperand_115 rfl (lv_at hl 0 rfl) ?_
    refine lv_bipush (v := 8) hx hb dX8_openOperand_116 (by decide) ?_
    refine lv_aload_n hx hb dX8_openOperand_118 rfl (lv_at hl 0 rfl) ?_
    refine va_get (D := D) (ci := 8) (v := .ref (ad 110)) (C := RX8) (T := TX8) (N := 48) hx hb hts layX8 hown hK hP 0 rfl rfl 19 (by decide) (hts _ (inA q997)) (fun _ h9 => h9) rfl dX8_openOperand_119 ?_
    refine lv_iload_n hx hb dX8_openOperand_122 rfl (lv_at hl 1 rfl) ?_
    obtain ⟨b16, hM⟩ := gd_use hM
    refine va_iald hx hb hK hP 7 0 rfl rfl b16 dX8_openOperand_123 ?_
    obtain ⟨r17, hcr17, hM⟩ := ob_use hM
    refine cl_V (As := [.int 8, .int (o_T.2.2.2.2.1 a1.toNatClampNeg)]) (rest := []) (wM_CTVI cI ad o_X o_L o_N o_T o_U o_O o_E o_Q o_V r17 o_C) [] ⟨hx, hb, hml, hown, hts⟩ (c_Model_item l D cI sd ad o_C o_X o_L o_N o_T o_U o_O o_E o_Q o_V r15 8 (o_T.2.2.2.2.1 a1.toNatClampNeg) r17 hcr17) (cwV2 hts q1512 mvX8_item rfl rfl ⟨(Nat.le_of_ble_eq_true rfl), (Nat.le_of_ble_eq_true rfl)⟩) hK hE hA hP hD hS 0 (T := TX8) (N := 48) (ci := 8) rfl rfl [0, 13, 14] rfl (by decide) rfl rfl rfl rfl rfl rfl hl.1 (Nat.le_of_ble_eq_true rfl) dX8_openOperand_124 ⟨Nat.zero_le _, Nat.zero_le _⟩ (fun H locs hP hD hS => ?_)
    refine lv_goto (tgt := 228) hx hb dX8_openOperand_127 (by decide) ?_
    cases hM
    exact rt_v hx hb hr hlk hP hD hS rfl dX8_openOperand_228
  replace hM := if_f c14 hM
  by_cases c18 : (o_T.2.2.1 a1.toNatClampNeg) = 34
  · replace hM := if_t c18 hM
    refine lv_tableIn (tgt := 130) hx hb dX8_openOperand_6 (by rw [c18]; decide) (by rw [c18]; decide) (by rw [c18]; rfl) (by decide) ?_
    refine lv_aload_n hx hb dX8_openOperand_130 rfl (lv_at hl 0 rfl) ?_
    refine lv_bipush (v := 56) hx hb dX8_openOperand_131 (by decide) ?_
    refine lv_iconst (v := 3) hx hb dX8_openOperand_133 (by decide) ?_
    refine lv_iload_n hx hb dX8_openOperand_134 rfl (lv_at hl 1 rfl) ?_
    refine lv_bipush (v := 55) hx hb dX8_openOperand_135 (by decide) ?_
    obtain ⟨r19, hcr19, hM⟩ := ob_use hM
    refine cl_V (As := [.int 56, .int 3, .int a1, .int 55]) (rest := []) (wM_CTVI cI ad o_X o_L o_N o_T o_U o_O o_E o_Q o_V r19 o_C) [] ⟨hx, hb, hml, hown, hts⟩ (c_Model_itemAll l D cI sd ad o_C o_X o_L o_N o_U o_O o_E o_Q o_V o_T o_I 56 3 a1 55 r19 hcr19) (cwV2 hts q1559 mvX8_itemAll rfl rfl ⟨(Nat.le_of_ble_eq_true rfl), (Nat.le_of_ble_eq_true rfl)⟩) hK hE hA hP hD hS 0 (T := TX8) (N := 48) (ci := 8) rfl rfl [0, 5, 6, 7, 8, 9, 10, 11, 13, 14] rfl (by decide) (mrgE rfl rfl) rfl rfl rfl rfl rfl hl.1 (Nat.le_of_ble_eq_true rfl) dX8_openOperand_137 ⟨Nat.zero_le _, Nat.zero_le _⟩ (fun H locs hP hD hS => ?_)
    refine lv_aload_n hx hb dX8_openOperand_140 rfl (lv_at hl 0 rfl) ?_
    refine lv_bipush (v := 8) hx hb dX8_openOperand_141 (by decide) ?_
    refine lv_aload_n hx hb dX8_openOperand_143 rfl (lv_at hl 0 rfl) ?_
    refine va_get (D := D) (ci := 8) (v := .ref (ad 110)) (C := RX8) (T := TX8) (N := 48) hx hb hts layX8 hown hK hP 0 rfl rfl 19 (by decide) (hts _ (inA q997)) (fun _ h9 => h9) rfl dX8_openOperand_144 ?_
    refine lv_iload_n hx hb dX8_openOperand_147 rfl (lv_at hl 1 rfl) ?_
    obtain ⟨b20, hM⟩ := gd_use hM
    refine va_iald hx hb hK hP 7 0 rfl rfl b20 dX8_openOperand_148 ?_
    obtain ⟨r21, hcr21, hM⟩ := ob_use hM
    refine cl_V (As := [.int 8, .int (o_T.2.2.2.2.1 a1.toNatClampNeg)]) (rest := []) (wM_CTVI cI ad o_X o_L o_N o_T o_U o_O o_E o_Q o_V r21 o_C) [] ⟨hx, hb, hml, hown, hts⟩ (c_Model_item l D cI sd ad o_C o_X o_L o_N o_T o_U o_O o_E o_Q o_V r19 8 (o_T.2.2.2.2.1 a1.toNatClampNeg) r21 hcr21) (cwV2 hts q1512 mvX8_item rfl rfl ⟨(Nat.le_of_ble_eq_true rfl), (Nat.le_of_ble_eq_true rfl)⟩) hK hE hA hP hD hS 0 (T := TX8) (N := 48) (ci := 8) rfl rfl [0, 13, 14] rfl (by decide) rfl rfl rfl rfl rfl rfl hl.1 (Nat.le_of_ble_eq_true rfl) dX8_openOperand_149 ⟨Nat.zero_le _, Nat.zero_le _⟩ (fun H locs hP hD hS => ?_)
    refine lv_goto (tgt := 228) hx hb dX8_openOperand_152 (by decide) ?_
    cases hM
    exact rt_v hx hb hr hlk hP hD hS rfl dX8_openOperand_228
  replace hM := if_f c18 hM
  by_cases c22 : (o_T.2.2.1 a1.toNatClampNeg) = 35
  · replace hM := if_t c22 hM
    refine lv_tableIn (tgt := 155) hx hb dX8_openOperand_6 (by rw [c22]; decide) (by rw [c22]; decide) (by rw [c22]; rfl) (by decide) ?_
    refine lv_aload_n hx hb dX8_openOperand_155 rfl (lv_at hl 0 rfl) ?_
    refine lv_aload_n hx hb dX8_openOperand_156 rfl (lv_at hl 0 rfl) ?_
    refine lv_iload_n hx hb dX8_openOperand_157 rfl (lv_at hl 1 rfl) ?_
    obtain ⟨r23, hcr23, hM⟩ := ob_use hM
    refine cl_V (As := [.int a1]) (rest := [.ref (ad 100)]) (wM_CTVI cI ad o_X o_L o_N o_T o_U o_O o_E o_Q o_V o_I o_C) (.int r23 :: [.ref (ad 100)]) ⟨hx, hb, hml, hown, hts⟩ (c_Model_second l D cI sd ad o_C o_X o_L o_N o_U o_O o_E o_Q o_V o_I o_T a1 r23 hcr23) (cwV2 hts q1555 mvX8_second rfl rfl ⟨(Nat.le_of_ble_eq_true rfl), (Nat.le_of_ble_eq_true rfl)⟩) hK hE hA hP hD hS 0 (T := TX8) (N := 48) (ci := 8) rfl rfl [0, 5, 6, 7, 8, 9, 10, 11] rfl (by decide) (mrgE rfl rfl) rfl rfl rfl rfl rfl hl.1 (Nat.le_of_ble_eq_true rfl) dX8_openOperand_158 ⟨Nat.zero_le _, Nat.zero_le _⟩ (fun H locs hP hD hS => ?_)
    refine lv_iload_n hx hb dX8_openOperand_161 rfl (lv_at hl 1 rfl) ?_
    refine lv_iconst (v := 1) hx hb dX8_openOperand_162 (by decide) ?_
    obtain ⟨r24, hcr24, hM⟩ := ob_use hM
    refine cl_V (As := [.int r23, .int a1, .int 1]) (rest := []) (wM_CTVI cI ad o_X o_L o_N o_T o_U o_O o_E o_Q o_V r24 o_C) [] ⟨hx, hb, hml, hown, hts⟩ (c_Model_itemOperand l D cI sd ad o_C o_X o_L o_N o_U o_O o_E o_Q o_V o_T o_I r23 a1 1 r24 hcr24) (cwV2 hts q1593 mvX8_itemOperand rfl rfl ⟨(Nat.le_of_ble_eq_true rfl), (Nat.le_of_ble_eq_true rfl)⟩) hK hE hA hP hD hS 0 (T := TX8) (N := 48) (ci := 8) rfl rfl [0, 5, 6, 7, 8, 9, 10, 11, 13, 14] rfl (by decide) (mrgE rfl rfl) rfl rfl rfl rfl rfl hl.1 (Nat.le_of_ble_eq_true rfl) dX8_openOperand_163 ⟨Nat.zero_le _, Nat.zero_le _⟩ (fun H locs hP hD hS => ?_)
    refine lv_aload_n hx hb dX8_openOperand_166 rfl (lv_at hl 0 rfl) ?_
    refine lv_iconst (v := 0) hx hb dX8_openOperand_167 (by decide) ?_
    refine lv_aload_n hx hb dX8_openOperand_168 rfl (lv_at hl 0 rfl) ?_
    refine va_get (D := D) (ci := 8) (v := .ref (ad 110)) (C := RX8) (T := TX8) (N := 48) hx hb hts layX8 hown hK hP 0 rfl rfl 19 (by decide) (hts _ (inA q997)) (fun _ h9 => h9) rfl dX8_openOperand_169 ?_
    refine lv_iload_n hx hb dX8_openOperand_172 rfl (lv_at hl 1 rfl) ?_
    obtain ⟨b25, hM⟩ := gd_use hM
    refine va_iald hx hb hK hP 7 0 rfl rfl b25 dX8_openOperand_173 ?_
    obtain ⟨r26, hcr26, hM⟩ := ob_use hM
    refine cl_S (As := [.int (o_T.2.2.2.2.1 a1.toNatClampNeg)]) (rest := [.int 0, .ref (ad 100)]) (wM_CTVI cI ad o_X o_L o_N o_T o_U o_O o_E o_Q o_V r24 o_C) (.int r26 :: [.int 0, .ref (ad 100)]) ⟨hx, hb, hml, hown, hts⟩ (c_Model_tokenOf l D cI sd ad (o_T.2.2.2.2.1 a1.toNatClampNeg) r26 hcr26) (cwS2 hts q1597 mvX8_tokenOf rfl rfl ⟨(Nat.le_of_ble_eq_true rfl), (Nat.le_of_ble_eq_true rfl)⟩) hK hE hA hP hD hS [] rfl (by decide) rfl rfl rfl rfl rfl rfl hl.1 (Nat.le_of_ble_eq_true rfl) dX8_openOperand_174 ⟨Nat.zero_le _, Nat.zero_le _⟩ (fun H locs hP hD hS => ?_)
    obtain ⟨r27, hcr27, hM⟩ := ob_use hM
    refine cl_V (As := [.int 0, .int r26]) (rest := []) (wM_CTVI cI ad o_X o_L o_N o_T o_U o_O o_E o_Q o_V r27 o_C) [] ⟨hx, hb, hml, hown, hts⟩ (c_Model_item l D cI sd ad o_C o_X o_L o_N o_T o_U o_O o_E o_Q o_V r24 0 r26 r27 hcr27) (cwV2 hts q1512 mvX8_item rfl rfl ⟨(Nat.le_of_ble_eq_true rfl), (Nat.le_of_ble_eq_true rfl)⟩) hK hE hA hP hD hS 0 (T := TX8) (N := 48) (ci := 8) rfl rfl [0, 13, 14] rfl (by decide) rfl rfl rfl rfl rfl rfl hl.1 (Nat.le_of_ble_eq_true rfl) dX8_openOperand_177 ⟨Nat.zero_le _, Nat.zero_le _⟩ (fun H locs hP hD hS => ?_)
    refine lv_aload_n hx hb dX8_openOperand_180 rfl (lv_at hl 0 rfl) ?_
    refine lv_aload_n hx hb dX8_openOperand_181 rfl (lv_at hl 0 rfl) ?_
    refine va_get (D := D) (ci := 8) (v := .ref (ad 112)) (C := RX8) (T := TX8) (N := 48) hx hb hts layX8 hown hK hP 0 rfl rfl 21 (by decide) (hts _ (inA q999)) (fun _ h9 => h9) rfl dX8_openOperand_182 ?_
    refine lv_iload_n hx hb dX8_openOperand_185 rfl (lv_at hl 1 rfl) ?_
    obtain ⟨b28, hM⟩ := gd_use hM
    refine va_iald hx hb hK hP 9 0 rfl rfl b28 dX8_openOperand_186 ?_
    refine lv_iload_n hx hb dX8_openOperand_187 rfl (lv_at hl 1 rfl) ?_
    refine lv_iconst (v := 0) hx hb dX8_openOperand_188 (by decide) ?_
    obtain ⟨r29, hcr29, hM⟩ := ob_use hM
    refine cl_V (As := [.int (o_T.2.2.2.2.2.2.1 a1.toNatClampNeg), .int a1, .int 0]) (rest := []) (wM_CTVI cI ad o_X o_L o_N o_T o_U o_O o_E o_Q o_V r29 o_C) [] ⟨hx, hb, hml, hown, hts⟩ (c_Model_itemOperand l D cI sd ad o_C o_X o_L o_N o_U o_O o_E o_Q o_V o_T r27 (o_T.2.2.2.2.2.2.1 a1.toNatClampNeg) a1 0 r29 hcr29) (cwV2 hts q1593 mvX8_itemOperand rfl rfl ⟨(Nat.le_of_ble_eq_true rfl), (Nat.le_of_ble_eq_true rfl)⟩) hK hE hA hP hD hS 0 (T := TX8) (N := 48) (ci := 8) rfl rfl [0, 5, 6, 7, 8, 9, 10, 11, 13, 14] rfl (by decide) (mrgE rfl rfl) rfl rfl rfl rfl rfl hl.1 (Nat.le_of_ble_eq_true rfl) dX8_openOperand_189 ⟨Nat.zero_le _, Nat.zero_le _⟩ (fun H locs hP hD hS => ?_)
    refine lv_goto (tgt := 228) hx hb dX8_openOperand_192 (by decide) ?_
    cases hM
    exact rt_v hx hb hr hlk hP hD hS rfl dX8_openOperand_228
  replace hM := if_f c22 hM
  refine lv_tableOut (tgt := 195) hx hb dX8_openOperand_6 (by have := lv_neT c2 (show (30 : Int32).toInt = 30 by decide); have := lv_neT c5 (show (31 : Int32).toInt = 31 by decide); have := lv_neT c10 (show (32 : Int32).toInt = 32 by decide); have := lv_neT c14 (show (33 : Int32).toInt = 33 by decide); have := lv_neT c18 (show (34 : Int32).toInt = 34 by decide); have := lv_neT c22 (show (35 : Int32).toInt = 35 by decide); omega) (by decide) ?_
  refine lv_aload_n hx hb dX8_openOperand_195 rfl (lv_at hl 0 rfl) ?_
  refine lv_aload_n hx hb dX8_openOperand_196 rfl (lv_at hl 0 rfl) ?_
  refine va_get (D := D) (ci := 8) (v := .ref (ad 112)) (C := RX8) (T := TX8) (N := 48) hx hb hts layX8 hown hK hP 0 rfl rfl 21 (by decide) (hts _ (inA q999)) (fun _ h9 => h9) rfl dX8_openOperand_197 ?_
  refine lv_iload_n hx hb dX8_openOperand_200 rfl (lv_at hl 1 rfl) ?_
  obtain ⟨b30, hM⟩ := gd_use hM
  refine va_iald hx hb hK hP 9 0 rfl rfl b30 dX8_openOperand_201 ?_
  refine lv_iload_n hx hb dX8_openOperand_202 rfl (lv_at hl 1 rfl) ?_
  refine lv_iconst (v := 0) hx hb dX8_openOperand_203 (by decide) ?_
  obtain ⟨r31, hcr31, hM⟩ := ob_use hM
  refine cl_V (As := [.int (o_T.2.2.2.2.2.2.1 a1.toNatClampNeg), .int a1, .int 0]) (rest := []) (wM_CTVI cI ad o_X o_L o_N o_T o_U o_O o_E o_Q o_V r31 o_C) [] ⟨hx, hb, hml, hown, hts⟩ (c_Model_itemOperand l D cI sd ad o_C o_X o_L o_N o_U o_O o_E o_Q o_V o_T o_I (o_T.2.2.2.2.2.2.1 a1.toNatClampNeg) a1 0 r31 hcr31) (cwV2 hts q1593 mvX8_itemOperand rfl rfl ⟨(Nat.le_of_ble_eq_true rfl), (Nat.le_of_ble_eq_true rfl)⟩) hK hE hA hP hD hS 0 (T := TX8) (N := 48) (ci := 8) rfl rfl [0, 5, 6, 7, 8, 9, 10, 11, 13, 14] rfl (by decide) (mrgE rfl rfl) rfl rfl rfl rfl rfl hl.1 (Nat.le_of_ble_eq_true rfl) dX8_openOperand_204 ⟨Nat.zero_le _, Nat.zero_le _⟩ (fun H locs hP hD hS => ?_)
  refine lv_aload_n hx hb dX8_openOperand_207 rfl (lv_at hl 0 rfl) ?_
  refine lv_iconst (v := 0) hx hb dX8_openOperand_208 (by decide) ?_
  refine lv_aload_n hx hb dX8_openOperand_209 rfl (lv_at hl 0 rfl) ?_
  refine va_get (D := D) (ci := 8) (v := .ref (ad 110)) (C := RX8) (T := TX8) (N := 48) hx hb hts layX8 hown hK hP 0 rfl rfl 19 (by decide) (hts _ (inA q997)) (fun _ h9 => h9) rfl dX8_openOperand_210 ?_
  refine lv_iload_n hx hb dX8_openOperand_213 rfl (lv_at hl 1 rfl) ?_
  obtain ⟨b32, hM⟩ := gd_use hM
  refine va_iald hx hb hK hP 7 0 rfl rfl b32 dX8_openOperand_214 ?_
  refine lv_if_ne (tgt := 223) hx hb dX8_openOperand_215 (by decide) (fun c33 => ?_) (fun c33 => ?_)
  · replace hM := if_f c33 hM
    refine lv_bipush (v := 34) hx hb dX8_openOperand_223 (by decide) ?_
    obtain ⟨r34, hcr34, hM⟩ := ob_use hM
    refine cl_V (As := [.int 0, .int 34]) (rest := []) (wM_CTVI cI ad o_X o_L o_N o_T o_U o_O o_E o_Q o_V r34 o_C) [] ⟨hx, hb, hml, hown, hts⟩ (c_Model_item l D cI sd ad o_C o_X o_L o_N o_T o_U o_O o_E o_Q o_V r31 0 34 r34 hcr34) (cwV2 hts q1512 mvX8_item rfl rfl ⟨(Nat.le_of_ble_eq_true rfl), (Nat.le_of_ble_eq_true rfl)⟩) hK hE hA hP hD hS 0 (T := TX8) (N := 48) (ci := 8) rfl rfl [0, 13, 14] rfl (by decide) rfl rfl rfl rfl rfl rfl hl.1 (Nat.le_of_ble_eq_true rfl) dX8_openOperand_225 ⟨Nat.zero_le _, Nat.zero_le _⟩ (fun H locs hP hD hS => ?_)
    cases hM
    exact rt_v hx hb hr hlk hP hD hS rfl dX8_openOperand_228
  · replace hM := if_t c33 hM
    refine lv_bipush (v := 64) hx hb dX8_openOperand_218 (by decide) ?_
    refine lv_goto (tgt := 225) hx hb dX8_openOperand_220 (by decide) ?_
    obtain ⟨r35, hcr35, hM⟩ := ob_use hM
    refine cl_V (As := [.int 0, .int 64]) (rest := []) (wM_CTVI cI ad o_X o_L o_N o_T o_U o_O o_E o_Q o_V r35 o_C) [] ⟨hx, hb, hml, hown, hts⟩ (c_Model_item l D cI sd ad o_C o_X o_L o_N o_T o_U o_O o_E o_Q o_V r31 0 64 r35 hcr35) (cwV2 hts q1512 mvX8_item rfl rfl ⟨(Nat.le_of_ble_eq_true rfl), (Nat.le_of_ble_eq_true rfl)⟩) hK hE hA hP hD hS 0 (T := TX8) (N := 48) (ci := 8) rfl rfl [0, 13, 14] rfl (by decide) rfl rfl rfl rfl rfl rfl hl.1 (Nat.le_of_ble_eq_true rfl) dX8_openOperand_225 ⟨Nat.zero_le _, Nat.zero_le _⟩ (fun H locs hP hD hS => ?_)
    cases hM
    exact rt_v hx hb hr hlk hP hD hS rfl dX8_openOperand_228

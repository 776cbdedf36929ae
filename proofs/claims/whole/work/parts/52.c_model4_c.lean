set_option maxHeartbeats 4000000 in
set_option maxRecDepth 100000 in
theorem c_Model_closeness (l : Launch) (D : va_G) (cI : ClassId) (sd : Nat → Nat) (ad : Nat → Nat) (a1 : Int32) (res : Int32) (hM : f_Model_closeness a1 = some res) : Ctr l D cI sd yX8_closeness (wsM yX8_closeness cX8_closeness 1 (Option.some Jvm.ClassFile.FieldType.int)) { frames := 0, cells := 0, slots := 0, locals := 0 } [.int a1] (([] : va_W)) (([] : va_W)) (some (.int res)) := by
  refine Ctr.of (cc := cX8_closeness) (maxL := 1) (own := RX8) (by decide +kernel) rfl rfl (Nat.le_of_ble_eq_true rfl) ?_
  intro p e s m below meth c A ls hx hb hr hml hown hts hlk hK hE hA hP hD hS hl
  have hl : lv_has ls 1 [(0, .int a1)] := hl
  unfold f_Model_closeness at hM
  refine lv_iload_n hx hb dX8_closeness_0 rfl (lv_at hl 0 rfl) ?_
  refine lv_iconst (v := 3) hx hb dX8_closeness_1 (by decide) ?_
  refine lv_icmp_ge (tgt := 9) hx hb dX8_closeness_2 (by decide) (fun c1 => ?_) (fun c1 => ?_)
  · replace hM := if_t c1 hM
    refine lv_iload_n hx hb dX8_closeness_9 rfl (lv_at hl 0 rfl) ?_
    refine lv_iconst (v := 5) hx hb dX8_closeness_10 (by decide) ?_
    refine lv_icmp_ge (tgt := 18) hx hb dX8_closeness_11 (by decide) (fun c2 => ?_) (fun c2 => ?_)
    · replace hM := if_t c2 hM
      refine lv_iload_n hx hb dX8_closeness_18 rfl (lv_at hl 0 rfl) ?_
      refine lv_bipush (v := 9) hx hb dX8_closeness_19 (by decide) ?_
      refine lv_icmp_ge (tgt := 28) hx hb dX8_closeness_21 (by decide) (fun c3 => ?_) (fun c3 => ?_)
      · replace hM := if_t c3 hM
        refine lv_iload_n hx hb dX8_closeness_28 rfl (lv_at hl 0 rfl) ?_
        refine lv_bipush (v := 11) hx hb dX8_closeness_29 (by decide) ?_
        refine lv_icmp_ge (tgt := 38) hx hb dX8_closeness_31 (by decide) (fun c4 => ?_) (fun c4 => ?_)
        · replace hM := if_t c4 hM
          refine lv_iload_n hx hb dX8_closeness_38 rfl (lv_at hl 0 rfl) ?_
          refine lv_bipush (v := 20) hx hb dX8_closeness_39 (by decide) ?_
          refine lv_icmp_ge (tgt := 49) hx hb dX8_closeness_41 (by decide) (fun c5 => ?_) (fun c5 => ?_)
          · replace hM := if_t c5 hM
            refine lv_bipush (v := 7) hx hb dX8_closeness_49 (by decide) ?_
            cases hM
            exact rt_i hx hb hr hlk hP hD hS rfl dX8_closeness_51
          · replace hM := if_f c5 hM
            refine lv_bipush (v := 6) hx hb dX8_closeness_44 (by decide) ?_
            refine lv_goto (tgt := 51) hx hb dX8_closeness_46 (by decide) ?_
            cases hM
            exact rt_i hx hb hr hlk hP hD hS rfl dX8_closeness_51
        · replace hM := if_f c4 hM
          refine lv_iconst (v := 5) hx hb dX8_closeness_34 (by decide) ?_
          refine lv_goto (tgt := 51) hx hb dX8_closeness_35 (by decide) ?_
          cases hM
          exact rt_i hx hb hr hlk hP hD hS rfl dX8_closeness_51
      · replace hM := if_f c3 hM
        refine lv_iconst (v := 4) hx hb dX8_closeness_24 (by decide) ?_
        refine lv_goto (tgt := 51) hx hb dX8_closeness_25 (by decide) ?_
        cases hM
        exact rt_i hx hb hr hlk hP hD hS rfl dX8_closeness_51
    · replace hM := if_f c2 hM
      refine lv_iconst (v := 3) hx hb dX8_closeness_14 (by decide) ?_
      refine lv_goto (tgt := 51) hx hb dX8_closeness_15 (by decide) ?_
      cases hM
      exact rt_i hx hb hr hlk hP hD hS rfl dX8_closeness_51
  · replace hM := if_f c1 hM
    refine lv_iload_n hx hb dX8_closeness_5 rfl (lv_at hl 0 rfl) ?_
    refine lv_goto (tgt := 51) hx hb dX8_closeness_6 (by decide) ?_
    cases hM
    exact rt_i hx hb hr hlk hP hD hS rfl dX8_closeness_51

set_option maxHeartbeats 4000000 in
set_option maxRecDepth 100000 in
theorem c_Model_settle (l : Launch) (D : va_G) (cI : ClassId) (sd : Nat → Nat) (ad : Nat → Nat) (o_C : S_MC) (o_X : S_MX) (o_L : S_ML) (o_N : S_MN) (o_U : S_MU) (o_Q : S_MQ) (o_V : S_MV) (o_I : S_MI) (o_T : S_MT) (o_O : S_MO) (o_E : S_ME) (res : S_MT × S_MO × S_ME) (hM : f_Model_settle o_T o_O o_E = some res) : Ctr l D cI sd yX8_settle (wsM yX8_settle cX8_settle 4 (Option.none : Option Jvm.ClassFile.FieldType)) { frames := 1, cells := 0, slots := 0, locals := 23 } [.ref (ad 100)] (wM_TOE cI ad o_X o_L o_N o_T o_U o_O o_E o_Q o_V o_I) (wM_TOE cI ad o_X o_L o_N res.1 o_U res.2.1 res.2.2 o_Q o_V o_I) none := by
  refine Ctr.of (cc := cX8_settle) (maxL := 4) (own := RX8) (by decide +kernel) rfl rfl (Nat.le_of_ble_eq_true rfl) ?_
  intro p e s m below meth c A ls hx hb hr hml hown hts hlk hK hE hA hP hD hS hl
  have hl : lv_has ls 4 [(0, .ref (ad 100))] := hl
  unfold f_Model_settle at hM
  refine lv_aload_n hx hb dX8_settle_0 rfl (lv_at hl 0 rfl) ?_
  refine lv_dup hx hb dX8_settle_1 rfl ?_
  refine va_get (D := D) (ci := 8) (v := .int o_E.2.1) (C := RX8) (T := TX8) (N := 48) hx hb hts layX8 hown hK hP 0 rfl rfl 35 (by decide) (hts _ (inA q1013)) (fun _ h9 => h9) rfl dX8_settle_2 ?_
  refine lv_iconst (v := 1) hx hb dX8_settle_5 (by decide) ?_
  refine lv_isub hx hb dX8_settle_6 ?_
  refine va_put (D := D) (ci := 8) (v := .int (o_E.2.1 - 1)) (ty := .int) (C := RX8) (T := TX8) (N := 48) hx hb hts layX8 tyX8 tyX8_ok nmX8 hown hK hP hD hS 0 rfl rfl 35 (by decide) (hts _ (inA q1013)) (fun _ h9 => h9) rfl (by decide +kernel) rfl rfl (Nat.le_of_ble_eq_true rfl) dX8_settle_7 (fun H locs hP hD hS => ?_)
  have hP : va_P D vwCl (wM_TOE cI ad o_X o_L o_N o_T o_U o_O (o_E.1, o_E.2.1 - 1, o_E.2.2) o_Q o_V o_I) H := hP
  have hD : va_D A (wM_TOE cI ad o_X o_L o_N o_T o_U o_O (o_E.1, o_E.2.1 - 1, o_E.2.2) o_Q o_V o_I) := hD
  refine lv_aload_n hx hb dX8_settle_10 rfl (lv_at hl 0 rfl) ?_
  refine va_get (D := D) (ci := 8) (v := .ref (ad 117)) (C := RX8) (T := TX8) (N := 48) hx hb hts layX8 hown hK hP 0 rfl rfl 36 (by decide) (hts _ (inA q1014)) (fun _ h9 => h9) rfl dX8_settle_11 ?_
  refine lv_aload_n hx hb dX8_settle_14 rfl (lv_at hl 0 rfl) ?_
  refine va_get (D := D) (ci := 8) (v := .int (o_E.2.1 - 1)) (C := RX8) (T := TX8) (N := 48) hx hb hts layX8 hown hK hP 0 rfl rfl 35 (by decide) (hts _ (inA q1013)) (fun _ h9 => h9) rfl dX8_settle_15 ?_
  obtain ⟨b1, hM⟩ := gd_use hM
  refine va_iald hx hb hK hP 9 0 rfl rfl b1 dX8_settle_18 ?_
  refine lv_topi (fun x2 ex2 => ?_)
  replace hM := nm_use ex2 hM
  refine lv_istore_n (lv' := [(1, .int x2), (0, .ref (ad 100))]) hx hb dX8_settle_19 rfl hl (by decide) rfl (fun ls hl => ?_)
  refine lv_aload_n hx hb dX8_settle_20 rfl (lv_at hl 1 rfl) ?_
  obtain ⟨r3, hcr3, hM⟩ := ob_use hM
  refine cl_V (As := []) (rest := []) (wM_TOE cI ad o_X o_L o_N o_T o_U o_O r3.2 o_Q o_V o_I) (.int r3.1 :: []) ⟨hx, hb, hml, hown, hts⟩ (c_Model_takeOperand l D cI sd ad o_C o_X o_L o_N o_T o_U o_O o_Q o_V o_I (o_E.1, o_E.2.1 - 1, o_E.2.2) r3 hcr3) (cwV2 hts q1401 mvX8_takeOperand rfl rfl ⟨(Nat.le_of_ble_eq_true rfl), (Nat.le_of_ble_eq_true rfl)⟩) hK hE hA hP hD hS 0 (T := TX8) (N := 48) (ci := 8) rfl rfl [0, 8, 9, 10, 11] rfl (by decide) (mrgE rfl rfl) rfl rfl rfl rfl rfl hl.1 (Nat.le_of_ble_eq_true rfl) dX8_settle_21 ⟨Nat.zero_le _, Nat.zero_le _⟩ (fun H locs hP hD hS => ?_)
  refine lv_istore_n (lv' := [(2, .int r3.1), (1, .int x2), (0, .ref (ad 100))]) hx hb dX8_settle_24 rfl hl (by decide) rfl (fun ls hl => ?_)
  refine lv_aload_n hx hb dX8_settle_25 rfl (lv_at hl 2 rfl) ?_
  refine lv_iload_n hx hb dX8_settle_26 rfl (lv_at hl 1 rfl) ?_
  refine lv_bipush (v := 20) hx hb dX8_settle_27 (by decide) ?_
  refine lv_icmp_ge (tgt := 37) hx hb dX8_settle_29 (by decide) (fun c4 => ?_) (fun c4 => ?_)
  · replace hM := if_t c4 hM
    refine lv_bipush (v := 36) hx hb dX8_settle_37 (by decide) ?_
    refine lv_aload_n hx hb dX8_settle_39 rfl (lv_at hl 2 rfl) ?_
    refine va_get (D := D) (ci := 8) (v := .ref (ad 118)) (C := RX8) (T := TX8) (N := 48) hx hb hts layX8 hown hK hP 0 rfl rfl 37 (by decide) (hts _ (inA q1015)) (fun _ h9 => h9) rfl dX8_settle_40 ?_
    refine lv_aload_n hx hb dX8_settle_43 rfl (lv_at hl 2 rfl) ?_
    refine va_get (D := D) (ci := 8) (v := .int r3.2.2.1) (C := RX8) (T := TX8) (N := 48) hx hb hts layX8 hown hK hP 0 rfl rfl 35 (by decide) (hts _ (inA q1013)) (fun _ h9 => h9) rfl dX8_settle_44 ?_
    obtain ⟨b5, hM⟩ := gd_use hM
    refine va_iald hx hb hK hP 10 0 rfl rfl b5 dX8_settle_47 ?_
    refine lv_iload_n hx hb dX8_settle_48 rfl (lv_at hl 1 rfl) ?_
    refine lv_bipush (v := 20) hx hb dX8_settle_49 (by decide) ?_
    refine lv_icmp_ge (tgt := 58) hx hb dX8_settle_51 (by decide) (fun c6 => ?_) (fun c6 => ?_)
    · replace hM := if_t c6 hM
      refine lv_iload_n hx hb dX8_settle_58 rfl (lv_at hl 1 rfl) ?_
      refine lv_bipush (v := 20) hx hb dX8_settle_59 (by decide) ?_
      refine lv_isub hx hb dX8_settle_61 ?_
      obtain ⟨r7, hcr7, hM⟩ := ob_use hM
      refine cl_V (As := [.int 36, .int (r3.2.2.2.2.2.2.1 r3.2.2.1.toNatClampNeg), .int (x2 - 20)]) (rest := []) (wM_TOE cI ad o_X o_L o_N r7.2 o_U o_O r3.2 o_Q o_V o_I) (.int r7.1 :: []) ⟨hx, hb, hml, hown, hts⟩ (c_Model_make l D cI sd ad o_C o_X o_L o_N o_U o_O r3.2 o_Q o_V o_I o_T 36 (r3.2.2.2.2.2.2.1 r3.2.2.1.toNatClampNeg) (x2 - 20) r7 hcr7) (cwV2 hts q1143 mvX8_make rfl rfl ⟨(Nat.le_of_ble_eq_true rfl), (Nat.le_of_ble_eq_true rfl)⟩) hK hE hA hP hD hS 0 (T := TX8) (N := 48) (ci := 8) rfl rfl [0, 1, 2, 3, 4, 5, 6, 7] rfl (by decide) (mrgE rfl rfl) rfl rfl rfl rfl rfl hl.1 (Nat.le_of_ble_eq_true rfl) dX8_settle_62 ⟨Nat.zero_le _, Nat.zero_le _⟩ (fun H locs hP hD hS => ?_)
      refine lv_istore_n (lv' := [(3, .int r7.1), (2, .int r3.1), (1, .int x2), (0, .ref (ad 100))]) hx hb dX8_settle_65 rfl hl (by decide) rfl (fun ls hl => ?_)
      refine lv_iload_n hx hb dX8_settle_66 rfl (lv_at hl 2 rfl) ?_
      refine lv_bipush (v := 20) hx hb dX8_settle_67 (by decide) ?_
      refine lv_icmp_ge (tgt := 84) hx hb dX8_settle_69 (by decide) (fun c8 => ?_) (fun c8 => ?_)
      · replace hM := if_t c8 hM
        refine lv_aload_n hx hb dX8_settle_84 rfl (lv_at hl 3 rfl) ?_
        refine lv_dup hx hb dX8_settle_85 rfl ?_
        refine va_get (D := D) (ci := 8) (v := .int o_O.1) (C := RX8) (T := TX8) (N := 48) hx hb hts layX8 hown hK hP 0 rfl rfl 27 (by decide) (hts _ (inA q1005)) (fun _ h9 => h9) rfl dX8_settle_86 ?_
        refine lv_iconst (v := 1) hx hb dX8_settle_89 (by decide) ?_
        refine lv_isub hx hb dX8_settle_90 ?_
        refine va_put (D := D) (ci := 8) (v := .int (o_O.1 - 1)) (ty := .int) (C := RX8) (T := TX8) (N := 48) hx hb hts layX8 tyX8 tyX8_ok nmX8 hown hK hP hD hS 0 rfl rfl 27 (by decide) (hts _ (inA q1005)) (fun _ h9 => h9) rfl (by decide +kernel) rfl rfl (Nat.le_of_ble_eq_true rfl) dX8_settle_91 (fun H locs hP hD hS => ?_)
        have hP : va_P D vwCl (wM_TOE cI ad o_X o_L o_N r7.2 o_U (o_O.1 - 1, o_O.2) r3.2 o_Q o_V o_I) H := hP
        have hD : va_D A (wM_TOE cI ad o_X o_L o_N r7.2 o_U (o_O.1 - 1, o_O.2) r3.2 o_Q o_V o_I) := hD
        refine lv_aload_n hx hb dX8_settle_94 rfl (lv_at hl 3 rfl) ?_
        refine lv_iload_n hx hb dX8_settle_95 rfl (lv_at hl 1 rfl) ?_
        refine lv_iload_n hx hb dX8_settle_96 rfl (lv_at hl 0 rfl) ?_
        obtain ⟨r9, hcr9, hM⟩ := ob_use hM
        refine cl_V (As := [.int r3.1, .int r7.1]) (rest := []) (wM_TOE cI ad o_X o_L o_N r9 o_U (o_O.1 - 1, o_O.2) r3.2 o_Q o_V o_I) [] ⟨hx, hb, hml, hown, hts⟩ (c_Model_hang l D cI sd ad o_C o_X o_L o_N o_U (o_O.1 - 1, o_O.2) r3.2 o_Q o_V o_I r7.2 r3.1 r7.1 r9 hcr9) (cwV2 hts q1249 mvX8_hang rfl rfl ⟨(Nat.le_of_ble_eq_true rfl), (Nat.le_of_ble_eq_true rfl)⟩) hK hE hA hP hD hS 0 (T := TX8) (N := 48) (ci := 8) rfl rfl [0, 1, 2, 3, 4, 5, 6, 7] rfl (by decide) (mrgE rfl rfl) rfl rfl rfl rfl rfl hl.1 (Nat.le_of_ble_eq_true rfl) dX8_settle_97 ⟨Nat.zero_le _, Nat.zero_le _⟩ (fun H locs hP hD hS => ?_)
        refine lv_aload_n hx hb dX8_settle_100 rfl (lv_at hl 3 rfl) ?_
        refine lv_iload_n hx hb dX8_settle_101 rfl (lv_at hl 0 rfl) ?_
        obtain ⟨r10, hcr10, hM⟩ := ob_use hM
        refine cl_V (As := [.int r7.1]) (rest := []) (wM_TOE cI ad o_X o_L o_N r9 o_U (o_O.1 - 1, o_O.2) r10 o_Q o_V o_I) [] ⟨hx, hb, hml, hown, hts⟩ (c_Model_putOperand l D cI sd ad o_C o_X o_L o_N r9 o_U (o_O.1 - 1, o_O.2) o_Q o_V o_I r3.2 r7.1 r10 hcr10) (cwV2 hts q1393 mvX8_putOperand rfl rfl ⟨(Nat.le_of_ble_eq_true rfl), (Nat.le_of_ble_eq_true rfl)⟩) hK hE hA hP hD hS 0 (T := TX8) (N := 48) (ci := 8) rfl rfl [0, 8, 9, 10, 11] rfl (by decide) (mrgE rfl rfl) rfl rfl rfl rfl rfl hl.1 (Nat.le_of_ble_eq_true rfl) dX8_settle_102 ⟨Nat.zero_le _, Nat.zero_le _⟩ (fun H locs hP hD hS => ?_)
        cases hM
        exact rt_v hx hb hr hlk hP hD hS rfl dX8_settle_105
      · replace hM := if_f c8 hM
        refine lv_aload_n hx hb dX8_settle_72 rfl (lv_at hl 3 rfl) ?_
        refine lv_aload_n hx hb dX8_settle_73 rfl (lv_at hl 3 rfl) ?_
        obtain ⟨r11, hcr11, hM⟩ := ob_use hM
        refine cl_V (As := []) (rest := [.ref (ad 100)]) (wM_TOE cI ad o_X o_L o_N r7.2 o_U o_O r11.2 o_Q o_V o_I) (.int r11.1 :: [.ref (ad 100)]) ⟨hx, hb, hml, hown, hts⟩ (c_Model_takeOperand l D cI sd ad o_C o_X o_L o_N r7.2 o_U o_O o_Q o_V o_I r3.2 r11 hcr11) (cwV2 hts q1401 mvX8_takeOperand rfl rfl ⟨(Nat.le_of_ble_eq_true rfl), (Nat.le_of_ble_eq_true rfl)⟩) hK hE hA hP hD hS 0 (T := TX8) (N := 48) (ci := 8) rfl rfl [0, 8, 9, 10, 11] rfl (by decide) (mrgE rfl rfl) rfl rfl rfl rfl rfl hl.1 (Nat.le_of_ble_eq_true rfl) dX8_settle_74 ⟨Nat.zero_le _, Nat.zero_le _⟩ (fun H locs hP hD hS => ?_)
        refine lv_iload_n hx hb dX8_settle_77 rfl (lv_at hl 0 rfl) ?_
        obtain ⟨r12, hcr12, hM⟩ := ob_use hM
        refine cl_V (As := [.int r11.1, .int r7.1]) (rest := []) (wM_TOE cI ad o_X o_L o_N r12 o_U o_O r11.2 o_Q o_V o_I) [] ⟨hx, hb, hml, hown, hts⟩ (c_Model_hang l D cI sd ad o_C o_X o_L o_N o_U o_O r11.2 o_Q o_V o_I r7.2 r11.1 r7.1 r12 hcr12) (cwV2 hts q1249 mvX8_hang rfl rfl ⟨(Nat.le_of_ble_eq_true rfl), (Nat.le_of_ble_eq_true rfl)⟩) hK hE hA hP hD hS 0 (T := TX8) (N := 48) (ci := 8) rfl rfl [0, 1, 2, 3, 4, 5, 6, 7] rfl (by decide) (mrgE rfl rfl) rfl rfl rfl rfl rfl hl.1 (Nat.le_of_ble_eq_true rfl) dX8_settle_78 ⟨Nat.zero_le _, Nat.zero_le _⟩ (fun H locs hP hD hS => ?_)
        refine lv_goto (tgt := 94) hx hb dX8_settle_81 (by decide) ?_
        refine lv_aload_n hx hb dX8_settle_94 rfl (lv_at hl 3 rfl) ?_
        refine lv_iload_n hx hb dX8_settle_95 rfl (lv_at hl 1 rfl) ?_
        refine lv_iload_n hx hb dX8_settle_96 rfl (lv_at hl 0 rfl) ?_
        obtain ⟨r13, hcr13, hM⟩ := ob_use hM
        refine cl_V (As := [.int r3.1, .int r7.1]) (rest := []) (wM_TOE cI ad o_X o_L o_N r13 o_U o_O r11.2 o_Q o_V o_I) [] ⟨hx, hb, hml, hown, hts⟩ (c_Model_hang l D cI sd ad o_C o_X o_L o_N o_U o_O r11.2 o_Q o_V o_I r12 r3.1 r7.1 r13 hcr13) (cwV2 hts q1249 mvX8_hang rfl rfl ⟨(Nat.le_of_ble_eq_true rfl), (Nat.le_of_ble_eq_true rfl)⟩) hK hE hA hP hD hS 0 (T := TX8) (N := 48) (ci := 8) rfl rfl [0, 1, 2, 3, 4, 5, 6, 7] rfl (by decide) (mrgE rfl rfl) rfl rfl rfl rfl rfl hl.1 (Nat.le_of_ble_eq_true rfl) dX8_settle_97 ⟨Nat.zero_le _, Nat.zero_le _⟩ (fun H locs hP hD hS => ?_)
        refine lv_aload_n hx hb dX8_settle_100 rfl (lv_at hl 3 rfl) ?_
        refine lv_iload_n hx hb dX8_settle_101 rfl (lv_at hl 0 rfl) ?_
        obtain ⟨r14, hcr14, hM⟩ := ob_use hM
        refine cl_V (As := [.int r7.1]) (rest := []) (wM_TOE cI ad o_X o_L o_N r13 o_U o_O r14 o_Q o_V o_I) [] ⟨hx, hb, hml, hown, hts⟩ (c_Model_putOperand l D cI sd ad o_C o_X o_L o_N r13 o_U o_O o_Q o_V o_I r11.2 r7.1 r14 hcr14) (cwV2 hts q1393 mvX8_putOperand rfl rfl ⟨(Nat.le_of_ble_eq_true rfl), (Nat.le_of_ble_eq_true rfl)⟩) hK hE hA hP hD hS 0 (T := TX8) (N := 48) (ci := 8) rfl rfl [0, 8, 9, 10, 11] rfl (by decide) (mrgE rfl rfl) rfl rfl rfl rfl rfl hl.1 (Nat.le_of_ble_eq_true rfl) dX8_settle_102 ⟨Nat.zero_le _, Nat.zero_le _⟩ (fun H locs hP hD hS => ?_)
        cases hM
        exact rt_v hx hb hr hlk hP hD hS rfl dX8_settle_105
    · replace hM := if_f c6 hM
      refine lv_iload_n hx hb dX8_settle_54 rfl (lv_at hl 1 rfl) ?_
      refine lv_goto (tgt := 62) hx hb dX8_settle_55 (by decide) ?_
      obtain ⟨r15, hcr15, hM⟩ := ob_use hM
      refine cl_V (As := [.int 36, .int (r3.2.2.2.2.2.2.1 r3.2.2.1.toNatClampNeg), .int x2]) (rest := []) (wM_TOE cI ad o_X o_L o_N r15.2 o_U o_O r3.2 o_Q o_V o_I) (.int r15.1 :: []) ⟨hx, hb, hml, hown, hts⟩ (c_Model_make l D cI sd ad o_C o_X o_L o_N o_U o_O r3.2 o_Q o_V o_I o_T 36 (r3.2.2.2.2.2.2.1 r3.2.2.1.toNatClampNeg) x2 r15 hcr15) (cwV2 hts q1143 mvX8_make rfl rfl ⟨(Nat.le_of_ble_eq_true rfl), (Nat.le_of_ble_eq_true rfl)⟩) hK hE hA hP hD hS 0 (T := TX8) (N := 48) (ci := 8) rfl rfl [0, 1, 2, 3, 4, 5, 6, 7] rfl (by decide) (mrgE rfl rfl) rfl rfl rfl rfl rfl hl.1 (Nat.le_of_ble_eq_true rfl) dX8_settle_62 ⟨Nat.zero_le _, Nat.zero_le _⟩ (fun H locs hP hD hS => ?_)
      refine lv_istore_n (lv' := [(3, .int r15.1), (2, .int r3.1), (1, .int x2), (0, .ref (ad 100))]) hx hb dX8_settle_65 rfl hl (by decide) rfl (fun ls hl => ?_)
      refine lv_iload_n hx hb dX8_settle_66 rfl (lv_at hl 2 rfl) ?_
      refine lv_bipush (v := 20) hx hb dX8_settle_67 (by decide) ?_
      refine lv_icmp_ge (tgt := 84) hx hb dX8_settle_69 (by decide) (fun c16 => ?_) (fun c16 => ?_)
      · replace hM := if_t c16 hM
        refine lv_aload_n hx hb dX8_settle_84 rfl (lv_at hl 3 rfl) ?_
        refine lv_dup hx hb dX8_settle_85 rfl ?_
        refine va_get (D := D) (ci := 8) (v := .int o_O.1) (C := RX8) (T := TX8) (N := 48) hx hb hts layX8 hown hK hP 0 rfl rfl 27 (by decide) (hts _ (inA q1005)) (fun _ h9 => h9) rfl dX8_settle_86 ?_
        refine lv_iconst (v := 1) hx hb dX8_settle_89 (by decide) ?_
        refine lv_isub hx hb dX8_settle_90 ?_
        refine va_put (D := D) (ci := 8) (v := .int (o_O.1 - 1)) (ty := .int) (C := RX8) (T := TX8) (N := 48) hx hb hts layX8 tyX8 tyX8_ok nmX8 hown hK hP hD hS 0 rfl rfl 27 (by decide) (hts _ (inA q1005)) (fun _ h9 => h9) rfl (by decide +kernel) rfl rfl (Nat.le_of_ble_eq_true rfl) dX8_settle_91 (fun H locs hP hD hS => ?_)
        have hP : va_P D vwCl (wM_TOE cI ad o_X o_L o_N r15.2 o_U (o_O.1 - 1, o_O.2) r3.2 o_Q o_V o_I) H := hP
        have hD : va_D A (wM_TOE cI ad o_X o_L o_N r15.2 o_U (o_O.1 - 1, o_O.2) r3.2 o_Q o_V o_I) := hD
        refine lv_aload_n hx hb dX8_settle_94 rfl (lv_at hl 3 rfl) ?_
        refine lv_iload_n hx hb dX8_settle_95 rfl (lv_at hl 1 rfl) ?_
        refine lv_iload_n hx hb dX8_settle_96 rfl (lv_at hl 0 rfl) ?_
        obtain ⟨r17, hcr17, hM⟩ := ob_use hM
        refine cl_V (As := [.int r3.1, .int r15.1]) (rest := []) (wM_TOE cI ad o_X o_L o_N r17 o_U (o_O.1 - 1, o_O.2) r3.2 o_Q o_V o_I) [] ⟨hx, hb, hml, hown, hts⟩ (c_Model_hang l D cI sd ad o_C o_X o_L o_N o_U (o_O.1 - 1, o_O.2) r3.2 o_Q o_V o_I r15.2 r3.1 r15.1 r17 hcr17) (cwV2 hts q1249 mvX8_hang rfl rfl ⟨(Nat.le_of_ble_eq_true rfl), (Nat.le_of_ble_eq_true rfl)⟩) hK hE hA hP hD hS 0 (T := TX8) (N := 48) (ci := 8) rfl rfl [0, 1, 2, 3, 4, 5, 6, 7] rfl (by decide) (mrgE rfl rfl) rfl rfl rfl rfl rfl hl.1 (Nat.le_of_ble_eq_true rfl) dX8_settle_97 ⟨Nat.zero_le _, Nat.zero_le _⟩ (fun H locs hP hD hS => ?_)
        refine lv_aload_n hx hb dX8_settle_100 rfl (lv_at hl 3 rfl) ?_
        refine lv_iload_n hx hb dX8_settle_101 rfl (lv_at hl 0 rfl) ?_
        obtain ⟨r18, hcr18, hM⟩ := ob_use hM
        refine cl_V (As := [.int r15.1]) (rest := []) (wM_TOE cI ad o_X o_L o_N r17 o_U (o_O.1 - 1, o_O.2) r18 o_Q o_V o_I) [] ⟨hx, hb, hml, hown, hts⟩ (c_Model_putOperand l D cI sd ad o_C o_X o_L o_N r17 o_U (o_O.1 - 1, o_O.2) o_Q o_V o_I r3.2 r15.1 r18 hcr18) (cwV2 hts q1393 mvX8_putOperand rfl rfl ⟨(Nat.le_of_ble_eq_true rfl), (Nat.le_of_ble_eq_true rfl)⟩) hK hE hA hP hD hS 0 (T := TX8) (N := 48) (ci := 8) rfl rfl [0, 8, 9, 10, 11] rfl (by decide) (mrgE rfl rfl) rfl rfl rfl rfl rfl hl.1 (Nat.le_of_ble_eq_true rfl) dX8_settle_102 ⟨Nat.zero_le _, Nat.zero_le _⟩ (fun H locs hP hD hS => ?_)
        cases hM
        exact rt_v hx hb hr hlk hP hD hS rfl dX8_settle_105
      · replace hM := if_f c16 hM
        refine lv_aload_n hx hb dX8_settle_72 rfl (lv_at hl 3 rfl) ?_
        refine lv_aload_n hx hb dX8_settle_73 rfl (lv_at hl 3 rfl) ?_
        obtain ⟨r19, hcr19, hM⟩ := ob_use hM
        refine cl_V (As := []) (rest := [.ref (ad 100)]) (wM_TOE cI ad o_X o_L o_N r15.2 o_U o_O r19.2 o_Q o_V o_I) (.int r19.1 :: [.ref (ad 100)]) ⟨hx, hb, hml, hown, hts⟩ (c_Model_takeOperand l D cI sd ad o_C o_X o_L o_N r15.2 o_U o_O o_Q o_V o_I r3.2 r19 hcr19) (cwV2 hts q1401 mvX8_takeOperand rfl rfl ⟨(Nat.le_of_ble_eq_true rfl), (Nat.le_of_ble_eq_true rfl)⟩) hK hE hA hP hD hS 0 (T := TX8) (N := 48) (ci := 8) rfl rfl [0, 8, 9, 10, 11] rfl (by decide) (mrgE rfl rfl) rfl rfl rfl rfl rfl hl.1 (Nat.le_of_ble_eq_true rfl) dX8_settle_74 ⟨Nat.zero_le _, Nat.zero_le _⟩ (fun H locs hP hD hS => ?_)
        refine lv_iload_n hx hb dX8_settle_77 rfl (lv_at hl 0 rfl) ?_
        obtain ⟨r20, hcr20, hM⟩ := ob_use hM
        refine cl_V (As := [.int r19.1, .int r15.1]) (rest := []) (wM_TOE cI ad o_X o_L o_N r20 o_U o_O r19.2 o_Q o_V o_I) [] ⟨hx, hb, hml, hown, hts⟩ (c_Model_hang l D cI sd ad o_C o_X o_L o_N o_U o_O r19.2 o_Q o_V o_I r15.2 r19.1 r15.1 r20 hcr20) (cwV2 hts q1249 mvX8_hang rfl rfl ⟨(Nat.le_of_ble_eq_true rfl), (Nat.le_of_ble_eq_true rfl)⟩) hK hE hA hP hD hS 0 (T := TX8) (N := 48) (ci := 8) rfl rfl [0, 1, 2, 3, 4, 5, 6, 7] rfl (by decide) (mrgE rfl rfl) rfl rfl rfl rfl rfl hl.1 (Nat.le_of_ble_eq_true rfl) dX8_settle_78 ⟨Nat.zero_le _, Nat.zero_le _⟩ (fun H locs hP hD hS => ?_)
        refine lv_goto (tgt := 94) hx hb dX8_settle_81 (by decide) ?_
        refine lv_aload_n hx hb dX8_settle_94 rfl (lv_at hl 3 rfl) ?_
        refine lv_iload_n hx hb dX8_settle_95 rfl (lv_at hl 1 rfl) ?_
        refine lv_iload_n hx hb dX8_settle_96 rfl (lv_at hl 0 rfl) ?_
        obtain ⟨r21, hcr21, hM⟩ := ob_use hM
        refine cl_V (As := [.int r3.1, .int r15.1]) (rest := []) (wM_TOE cI ad o_X o_L o_N r21 o_U o_O r19.2 o_Q o_V o_I) [] ⟨hx, hb, hml, hown, hts⟩ (c_Model_hang l D cI sd ad o_C o_X o_L o_N o_U o_O r19.2 o_Q o_V o_I r20 r3.1 r15.1 r21 hcr21) (cwV2 hts q1249 mvX8_hang rfl rfl ⟨(Nat.le_of_ble_eq_true rfl), (Nat.le_of_ble_eq_true rfl)⟩) hK hE hA hP hD hS 0 (T := TX8) (N := 48) (ci := 8) rfl rfl [0, 1, 2, 3, 4, 5, 6, 7] rfl (by decide) (mrgE rfl rfl) rfl rfl rfl rfl rfl hl.1 (Nat.le_of_ble_eq_true rfl) dX8_settle_97 ⟨Nat.zero_le _, Nat.zero_le _⟩ (fun H locs hP hD hS => ?_)
        refine lv_aload_n hx hb dX8_settle_100 rfl (lv_at hl 3 rfl) ?_
        refine lv_iload_n hx hb dX8_settle_101 rfl (lv_at hl 0 rfl) ?_
        obtain ⟨r22, hcr22, hM⟩ := ob_use hM
        refine cl_V (As := [.int r15.1]) (rest := []) (wM_TOE cI ad o_X o_L o_N r21 o_U o_O r22 o_Q o_V o_I) [] ⟨hx, hb, hml, hown, hts⟩ (c_Model_putOperand l D cI sd ad o_C o_X o_L o_N r21 o_U o_O o_Q o_V o_I r19.2 r15.1 r22 hcr22) (cwV2 hts q1393 mvX8_putOperand rfl rfl ⟨(Nat.le_of_ble_eq_true rfl), (Nat.le_of_ble_eq_true rfl)⟩) hK hE hA hP hD hS 0 (T := TX8) (N := 48) (ci := 8) rfl rfl [0, 8, 9, 10, 11] rfl (by decide) (mrgE rfl rfl) rfl rfl rfl rfl rfl hl.1 (Nat.le_of_ble_eq_true rfl) dX8_settle_102 ⟨Nat.zero_le _, Nat.zero_le _⟩ (fun H locs hP hD hS => ?_)
        cases hM
        exact rt_v hx hb hr hlk hP hD hS rfl dX8_settle_105
  · replace hM := if_f c4 hM
    refine lv_bipush (v := 35) hx hb dX8_settle_32 (by decide) ?_
    refine lv_goto (tgt := 39) hx hb dX8_settle_34 (by decide) ?_
    refine lv_aload_n hx hb dX8_settle_39 rfl (lv_at hl 2 rfl) ?_
    refine va_get (D := D) (ci := 8) (v := .ref (ad 118)) (C := RX8) (T := TX8) (N := 48) hx hb hts layX8 hown hK hP 0 rfl rfl 37 (by decide) (hts _ (inA q1015)) (fun _ h9 => h9) rfl dX8_settle_40 ?_
    refine lv_aload_n hx hb dX8_settle_43 rfl (lv_at hl 2 rfl) ?_
    refine va_get (D := D) (ci := 8) (v := .int r3.2.2.1) (C := RX8) (T := TX8) (N := 48) hx hb hts layX8 hown hK hP 0 rfl rfl 35 (by decide) (hts _ (inA q1013)) (fun _ h9 => h9) rfl dX8_settle_44 ?_
    obtain ⟨b23, hM⟩ := gd_use hM
    refine va_iald hx hb hK hP 10 0 rfl rfl b23 dX8_settle_47 ?_
    refine lv_iload_n hx hb dX8_settle_48 rfl (lv_at hl 1 rfl) ?_
    refine lv_bipush (v := 20) hx hb dX8_settle_49 (by decide) ?_
    refine lv_icmp_ge (tgt := 58) hx hb dX8_settle_51 (by decide) (fun c24 => ?_) (fun c24 => ?_)
    · replace hM := if_t c24 hM
      refine lv_iload_n hx hb dX8_settle_58 rfl (lv_at hl 1 rfl) ?_
      refine lv_bipush (v := 20) hx hb dX8_settle_59 (by decide) ?_
      refine lv_isub hx hb dX8_settle_61 ?_
      obtain ⟨r25, hcr25, hM⟩ := ob_use hM
      refine cl_V (As := [.int 35, .int (r3.2.2.2.2.2.2.1 r3.2.2.1.toNatClampNeg), .int (x2 - 20)]) (rest := []) (wM_TOE cI ad o_X o_L o_N r25.2 o_U o_O r3.2 o_Q o_V o_I) (.int r25.1 :: []) ⟨hx, hb, hml, hown, hts⟩ (c_Model_make l D cI sd ad o_C o_X o_L o_N o_U o_O r3.2 o_Q o_V o_I o_T 35 (r3.2.2.2.2.2.2.1 r3.2.2.1.toNatClampNeg) (x2 - 20) r25 hcr25) (cwV2 hts q1143 mvX8_make rfl rfl ⟨(Nat.le_of_ble_eq_true rfl), (Nat.le_of_ble_eq_true rfl)⟩) hK hE hA hP hD hS 0 (T := TX8) (N := 48) (ci := 8) rfl rfl [0, 1, 2, 3, 4, 5, 6, 7] rfl (by decide) (mrgE rfl rfl) rfl rfl rfl rfl rfl hl.1 (Nat.le_of_ble_eq_true rfl) dX8_settle_62 ⟨Nat.zero_le _, Nat.zero_le _⟩ (fun H locs hP hD hS => ?_)
      refine lv_istore_n (lv' := [(3, .int r25.1), (2, .int r3.1), (1, .int x2), (0, .ref (ad 100))]) hx hb dX8_settle_65 rfl hl (by decide) rfl (fun ls hl => ?_)
      refine lv_iload_n hx hb dX8_settle_66 rfl (lv_at hl 2 rfl) ?_
      refine lv_bipush (v := 20) hx hb dX8_settle_67 (by decide) ?_
      refine lv_icmp_ge (tgt := 84) hx hb dX8_settle_69 (by decide) (fun c26 => ?_) (fun c26 => ?_)
      · replace hM := if_t c26 hM
        refine lv_aload_n hx hb dX8_settle_84 rfl (lv_at hl 3 rfl) ?_
        refine lv_dup hx hb dX8_settle_85 rfl ?_
        refine va_get (D := D) (ci := 8) (v := .int o_O.1) (C := RX8) (T := TX8) (N := 48) hx hb hts layX8 hown hK hP 0 rfl rfl 27 (by decide) (hts _ (inA q1005)) (fun _ h9 => h9) rfl dX8_settle_86 ?_
        refine lv_iconst (v := 1) hx hb dX8_settle_89 (by decide) ?_
        refine lv_isub hx hb dX8_settle_90 ?_
        refine va_put (D := D) (ci := 8) (v := .int (o_O.1 - 1)) (ty := .int) (C := RX8) (T := TX8) (N := 48) hx hb hts layX8 tyX8 tyX8_ok nmX8 hown hK hP hD hS 0 rfl rfl 27 (by decide) (hts _ (inA q1005)) (fun _ h9 => h9) rfl (by decide +kernel) rfl rfl (Nat.le_of_ble_eq_true rfl) dX8_settle_91 (fun H locs hP hD hS => ?_)
        have hP : va_P D vwCl (wM_TOE cI ad o_X o_L o_N r25.2 o_U (o_O.1 - 1, o_O.2) r3.2 o_Q o_V o_I) H := hP
        have hD : va_D A (wM_TOE cI ad o_X o_L o_N r25.2 o_U (o_O.1 - 1, o_O.2) r3.2 o_Q o_V o_I) := hD
        refine lv_aload_n hx hb dX8_settle_94 rfl (lv_at hl 3 rfl) ?_
        refine lv_iload_n hx hb dX8_settle_95 rfl (lv_at hl 1 rfl) ?_
        refine lv_iload_n hx hb dX8_settle_96 rfl (lv_at hl 0 rfl) ?_
        obtain ⟨r27, hcr27, hM⟩ := ob_use hM
        refine cl_V (As := [.int r3.1, .int r25.1]) (rest := []) (wM_TOE cI ad o_X o_L o_N r27 o_U (o_O.1 - 1, o_O.2) r3.2 o_Q o_V o_I) [] ⟨hx, hb, hml, hown, hts⟩ (c_Model_hang l D cI sd ad o_C o_X o_L o_N o_U (o_O.1 - 1, o_O.2) r3.2 o_Q o_V o_I r25.2 r3.1 r25.1 r27 hcr27) (cwV2 hts q1249 mvX8_hang rfl rfl ⟨(Nat.le_of_ble_eq_true rfl), (Nat.le_of_ble_eq_true rfl)⟩) hK hE hA hP hD hS 0 (T := TX8) (N := 48) (ci := 8) rfl rfl [0, 1, 2, 3, 4, 5, 6, 7] rfl (by decide) (mrgE rfl rfl) rfl rfl rfl rfl rfl hl.1 (Nat.le_of_ble_eq_true rfl) dX8_settle_97 ⟨Nat.zero_le _, Nat.zero_le _⟩ (fun H locs hP hD hS => ?_)
        refine lv_aload_n hx hb dX8_settle_100 rfl (lv_at hl 3 rfl) ?_
        refine lv_iload_n hx hb dX8_settle_101 rfl (lv_at hl 0 rfl) ?_
        obtain ⟨r28, hcr28, hM⟩ := ob_use hM
        refine cl_V (As := [.int r25.1]) (rest := []) (wM_TOE cI ad o_X o_L o_N r27 o_U (o_O.1 - 1, o_O.2) r28 o_Q o_V o_I) [] ⟨hx, hb, hml, hown, hts⟩ (c_Model_putOperand l D cI sd ad o_C o_X o_L o_N r27 o_U (o_O.1 - 1, o_O.2) o_Q o_V o_I r3.2 r25.1 r28 hcr28) (cwV2 hts q1393 mvX8_putOperand rfl rfl ⟨(Nat.le_of_ble_eq_true rfl), (Nat.le_of_ble_eq_true rfl)⟩) hK hE hA hP hD hS 0 (T := TX8) (N := 48) (ci := 8) rfl rfl [0, 8, 9, 10, 11] rfl (by decide) (mrgE rfl rfl) rfl rfl rfl rfl rfl hl.1 (Nat.le_of_ble_eq_true rfl) dX8_settle_102 ⟨Nat.zero_le _, Nat.zero_le _⟩ (fun H locs hP hD hS => ?_)
        cases hM
        exact rt_v hx hb hr hlk hP hD hS rfl dX8_settle_105
      · replace hM := if_f c26 hM
        refine lv_aload_n hx hb dX8_settle_72 rfl (lv_at hl 3 rfl) ?_
        refine lv_aload_n hx hb dX8_settle_73 rfl (lv_at hl 3 rfl) ?_
        obtain ⟨r29, hcr29, hM⟩ := ob_use hM
        refine cl_V (As := []) (rest := [.ref (ad 100)]) (wM_TOE cI ad o_X o_L o_N r25.2 o_U o_O r29.2 o_Q o_V o_I) (.int r29.1 :: [.ref (ad 100)]) ⟨hx, hb, hml, hown, hts⟩ (c_Model_takeOperand l D cI sd ad o_C o_X o_L o_N r25.2 o_U o_O o_Q o_V o_I r3.2 r29 hcr29) (cwV2 hts q1401 mvX8_takeOperand rfl rfl ⟨(Nat.le_of_ble_eq_true rfl), (Nat.le_of_ble_eq_true rfl)⟩) hK hE hA hP hD hS 0 (T := TX8) (N := 48) (ci := 8) rfl rfl [0, 8, 9, 10, 11] rfl (by decide) (mrgE rfl rfl) rfl rfl rfl rfl rfl hl.1 (Nat.le_of_ble_eq_true rfl) dX8_settle_74 ⟨Nat.zero_le _, Nat.zero_le _⟩ (fun H locs hP hD hS => ?_)
        refine lv_iload_n hx hb dX8_settle_77 rfl (lv_at hl 0 rfl) ?_
        obtain ⟨r30, hcr30, hM⟩ := ob_use hM
        refine cl_V (As := [.int r29.1, .int r25.1]) (rest := []) (wM_TOE cI ad o_X o_L o_N r30 o_U o_O r29.2 o_Q o_V o_I) [] ⟨hx, hb, hml, hown, hts⟩ (c_Model_hang l D cI sd ad o_C o_X o_L o_N o_U o_O r29.2 o_Q o_V o_I r25.2 r29.1 r25.1 r30 hcr30) (cwV2 hts q1249 mvX8_hang rfl rfl ⟨(Nat.le_of_ble_eq_true rfl), (Nat.le_of_ble_eq_true rfl)⟩) hK hE hA hP hD hS 0 (T := TX8) (N := 48) (ci := 8) rfl rfl [0, 1, 2, 3, 4, 5, 6, 7] rfl (by decide) (mrgE rfl rfl) rfl rfl rfl rfl rfl hl.1 (Nat.le_of_ble_eq_true rfl) dX8_settle_78 ⟨Nat.zero_le _, Nat.zero_le _⟩ (fun H locs hP hD hS => ?_)
        refine lv_goto (tgt := 94) hx hb dX8_settle_81 (by decide) ?_
        refine lv_aload_n hx hb dX8_settle_94 rfl (lv_at hl 3 rfl) ?_
        refine lv_iload_n hx hb dX8_settle_95 rfl (lv_at hl 1 rfl) ?_
        refine lv_iload_n hx hb dX8_settle_96 rfl (lv_at hl 0 rfl) ?_
        obtain ⟨r31, hcr31, hM⟩ := ob_use hM
        refine cl_V (As := [.int r3.1, .int r25.1]) (rest := []) (wM_TOE cI ad o_X o_L o_N r31 o_U o_O r29.2 o_Q o_V o_I) [] ⟨hx, hb, hml, hown, hts⟩ (c_Model_hang l D cI sd ad o_C o_X o_L o_N o_U o_O r29.2 o_Q o_V o_I r30 r3.1 r25.1 r31 hcr31) (cwV2 hts q1249 mvX8_hang rfl rfl ⟨(Nat.le_of_ble_eq_true rfl), (Nat.le_of_ble_eq_true rfl)⟩) hK hE hA hP hD hS 0 (T := TX8) (N := 48) (ci := 8) rfl rfl [0, 1, 2, 3, 4, 5, 6, 7] rfl (by decide) (mrgE rfl rfl) rfl rfl rfl rfl rfl hl.1 (Nat.le_of_ble_eq_true rfl) dX8_settle_97 ⟨Nat.zero_le _, Nat.zero_le _⟩ (fun H locs hP hD hS => ?_)
        refine lv_aload_n hx hb dX8_settle_100 rfl (lv_at hl 3 rfl) ?_
        refine lv_iload_n hx hb dX8_settle_101 rfl (lv_at hl 0 rfl) ?_
        obtain ⟨r32, hcr32, hM⟩ := ob_use hM
        refine cl_V (As := [.int r25.1]) (rest := []) (wM_TOE cI ad o_X o_L o_N r31 o_U o_O r32 o_Q o_V o_I) [] ⟨hx, hb, hml, hown, hts⟩ (c_Model_putOperand l D cI sd ad o_C o_X o_L o_N r31 o_U o_O o_Q o_V o_I r29.2 r25.1 r32 hcr32) (cwV2 hts q1393 mvX8_putOperand rfl rfl ⟨(Nat.le_of_ble_eq_true rfl), (Nat.le_of_ble_eq_true rfl)⟩) hK hE hA hP hD hS 0 (T := TX8) (N := 48) (ci := 8) rfl rfl [0, 8, 9, 10, 11] rfl (by decide) (mrgE rfl rfl) rfl rfl rfl rfl rfl hl.1 (Nat.le_of_ble_eq_true rfl) dX8_settle_102 ⟨Nat.zero_le _, Nat.zero_le _⟩ (fun H locs hP hD hS => ?_)
        cases hM
        exact rt_v hx hb hr hlk hP hD hS rfl dX8_settle_105
    · replace hM := if_f c24 hM
      refine lv_iload_n hx hb dX8_settle_54 rfl (lv_at hl 1 rfl) ?_
      refine lv_goto (tgt := 62) hx hb dX8_settle_55 (by decide) ?_
      obtain ⟨r33, hcr33, hM⟩ := ob_use hM
      refine cl_V (As := [.int 35, .int (r3.2.2.2.2.2.2.1 r3.2.2.1.toNatClampNeg), .int x2]) (rest := []) (wM_TOE cI ad o_X o_L o_N r33.2 o_U o_O r3.2 o_Q o_V o_I) (.int r33.1 :: []) ⟨hx, hb, hml, hown, hts⟩ (c_Model_make l D cI sd ad o_C o_X o_L o_N o_U o_O r3.2 o_Q o_V o_I o_T 35 (r3.2.2.2.2.2.2.1 r3.2.2.1.toNatClampNeg) x2 r33 hcr33) (cwV2 hts q1143 mvX8_make rfl rfl ⟨(Nat.le_of_ble_eq_true rfl), (Nat.le_of_ble_eq_true rfl)⟩) hK hE hA hP hD hS 0 (T := TX8) (N := 48) (ci := 8) rfl rfl [0, 1, 2, 3, 4, 5, 6, 7] rfl (by decide) (mrgE rfl rfl) rfl rfl rfl rfl rfl hl.1 (Nat.le_of_ble_eq_true rfl) dX8_settle_62 ⟨Nat.zero_le _, Nat.zero_le _⟩ (fun H locs hP hD hS => ?_)
      refine lv_istore_n (lv' := [(3, .int r33.1), (2, .int r3.1), (1, .int x2), (0, .ref (ad 100))]) hx hb dX8_settle_65 rfl hl (by decide) rfl (fun ls hl => ?_)
      refine lv_iload_n hx hb dX8_settle_66 rfl (lv_at hl 2 rfl) ?_
      refine lv_bipush (v := 20) hx hb dX8_settle_67 (by decide) ?_
      refine lv_icmp_ge (tgt := 84) hx hb dX8_settle_69 (by decide) (fun c34 => ?_) (fun c34 => ?_)
      · replace hM := if_t c34 hM
        refine lv_aload_n hx hb dX8_settle_84 rfl (lv_at hl 3 rfl) ?_
        refine lv_dup hx hb dX8_settle_85 rfl ?_
        refine va_get (D := D) (ci := 8) (v := .int o_O.1) (C := RX8) (T := TX8) (N := 48) hx hb hts layX8 hown hK hP 0 rfl rfl 27 (by decide) (hts _ (inA q1005)) (fun _ h9 => h9) rfl dX8_settle_86 ?_
        refine lv_iconst (v := 1) hx hb dX8_settle_89 (by decide) ?_
        refine lv_isub hx hb dX8_settle_90 ?_
        refine va_put (D := D) (ci := 8) (v := .int (o_O.1 - 1)) (ty := .int) (C := RX8) (T := TX8) (N := 48) hx hb hts layX8 tyX8 tyX8_ok nmX8 hown hK hP hD hS 0 rfl rfl 27 (by decide) (hts _ (inA q1005)) (fun _ h9 => h9) rfl (by decide +kernel) rfl rfl (Nat.le_of_ble_eq_true rfl) dX8_settle_91 (fun H locs hP hD hS => ?_)
        have hP : va_P D vwCl (wM_TOE cI ad o_X o_L o_N r33.2 o_U (o_O.1 - 1, o_O.2) r3.2 o_Q o_V o_I) H := hP
        have hD : va_D A (wM_TOE cI ad o_X o_L o_N r33.2 o_U (o_O.1 - 1, o_O.2) r3.2 o_Q o_V o_I) := hD
        refine lv_aload_n hx hb dX8_settle_94 rfl (lv_at hl 3 rfl) ?_
        refine lv_iload_n hx hb dX8_settle_95 rfl (lv_at hl 1 rfl) ?_
        refine lv_iload_n hx hb dX8_settle_96 rfl (lv_at hl 0 rfl) ?_
        obtain ⟨r35, hcr35, hM⟩ := ob_use hM
        refine cl_V (As := [.int r3.1, .int r33.1]) (rest := []) (wM_TOE cI ad o_X o_L o_N r35 o_U (o_O.1 - 1, o_O.2) r3.2 o_Q o_V o_I) [] ⟨hx, hb, hml, hown, hts⟩ (c_Model_hang l D cI sd ad o_C o_X o_L o_N o_U (o_O.1 - 1, o_O.2) r3.2 o_Q o_V o_I r33.2 r3.1 r33.1 r35 hcr35) (cwV2 hts q1249 mvX8_hang rfl rfl ⟨(Nat.le_of_ble_eq_true rfl), (Nat.le_of_ble_eq_true rfl)⟩) hK hE hA hP hD hS 0 (T := TX8) (N := 48) (ci := 8) rfl rfl [0, 1, 2, 3, 4, 5, 6, 7] rfl (by decide) (mrgE rfl rfl) rfl rfl rfl rfl rfl hl.1 (Nat.le_of_ble_eq_true rfl) dX8_settle_97 ⟨Nat.zero_le _, Nat.zero_le _⟩ (fun H locs hP hD hS => ?_)
        refine lv_aload_n hx hb dX8_settle_100 rfl (lv_at hl 3 rfl) ?_
        refine lv_iload_n hx hb dX8_settle_101 rfl (lv_at hl 0 rfl) ?_
        obtain ⟨r36, hcr36, hM⟩ := ob_use hM
        refine cl_V (As := [.int r33.1]) (rest := []) (wM_TOE cI ad o_X o_L o_N r35 o_U (o_O.1 - 1, o_O.2) r36 o_Q o_V o_I) [] ⟨hx, hb, hml, hown, hts⟩ (c_Model_putOperand l D cI sd ad o_C o_X o_L o_N r35 o_U (o_O.1 - 1, o_O.2) o_Q o_V o_I r3.2 r33.1 r36 hcr36) (cwV2 hts q1393 mvX8_putOperand rfl rfl ⟨(Nat.le_of_ble_eq_true rfl), (Nat.le_of_ble_eq_true rfl)⟩) hK hE hA hP hD hS 0 (T := TX8) (N := 48) (ci := 8) rfl rfl [0, 8, 9, 10, 11] rfl (by decide) (mrgE rfl rfl) rfl rfl rfl rfl rfl hl.1 (Nat.le_of_ble_eq_true rfl) dX8_settle_102 ⟨Nat.zero_le _, Nat.zero_le _⟩ (fun H locs hP hD hS => ?_)
        cases hM
        exact rt_v hx hb hr hlk hP hD hS rfl dX8_settle_105
      · replace hM := if_f c34 hM
        refine lv_aload_n hx hb dX8_settle_72 rfl (lv_at hl 3 rfl) ?_
        refine lv_aload_n hx hb dX8_settle_73 rfl (lv_at hl 3 rfl) ?_
        obtain ⟨r37, hcr37, hM⟩ := ob_use hM
        refine cl_V (As := []) (rest := [.ref (ad 100)]) (wM_TOE cI ad o_X o_L o_N r33.2 o_U o_O r37.2 o_Q o_V o_I) (.int r37.1 :: [.ref (ad 100)]) ⟨hx, hb, hml, hown, hts⟩ (c_Model_takeOperand l D cI sd ad o_C o_X o_L o_N r33.2 o_U o_O o_Q o_V o_I r3.2 r37 hcr37) (cwV2 hts q1401 mvX8_takeOperand rfl rfl ⟨(Nat.le_of_ble_eq_true rfl), (Nat.le_of_ble_eq_true rfl)⟩) hK hE hA hP hD hS 0 (T := TX8) (N := 48) (ci := 8) rfl rfl [0, 8, 9, 10, 11] rfl (by decide) (mrgE rfl rfl) rfl rfl rfl rfl rfl hl.1 (Nat.le_of_ble_eq_true rfl) dX8_settle_74 ⟨Nat.zero_le _, Nat.zero_le _⟩ (fun H locs hP hD hS => ?_)
        refine lv_iload_n hx hb dX8_settle_77 rfl (lv_at hl 0 rfl) ?_
        obtain ⟨r38, hcr38, hM⟩ := ob_use hM
        refine cl_V (As := [.int r37.1, .int r33.1]) (rest := []) (wM_TOE cI ad o_X o_L o_N r38 o_U o_O r37.2 o_Q o_V o_I) [] ⟨hx, hb, hml, hown, hts⟩ (c_Model_hang l D cI sd ad o_C o_X o_L o_N o_U o_O r37.2 o_Q o_V o_I r33.2 r37.1 r33.1 r38 hcr38) (cwV2 hts q1249 mvX8_hang rfl rfl ⟨(Nat.le_of_ble_eq_true rfl), (Nat.le_of_ble_eq_true rfl)⟩) hK hE hA hP hD hS 0 (T := TX8) (N := 48) (ci := 8) rfl rfl [0, 1, 2, 3, 4, 5, 6, 7] rfl (by decide) (mrgE rfl rfl) rfl rfl rfl rfl rfl hl.1 (Nat.le_of_ble_eq_true rfl) dX8_settle_78 ⟨Nat.zero_le _, Nat.zero_le _⟩ (fun H locs hP hD hS => ?_)
        refine lv_goto (tgt := 94) hx hb dX8_settle_81 (by decide) ?_
        refine lv_aload_n hx hb dX8_settle_94 rfl (lv_at hl 3 rfl) ?_
        refine lv_iload_n hx hb dX8_settle_95 rfl (lv_at hl 1 rfl) ?_
        refine lv_iload_n hx hb dX8_settle_96 rfl (lv_at hl 0 rfl) ?_
        obtain ⟨r39, hcr39, hM⟩ := ob_use hM
        refine cl_V (As := [.int r3.1, .int r33.1]) (rest := []) (wM_TOE cI ad o_X o_L o_N r39 o_U o_O r37.2 o_Q o_V o_I) [] ⟨hx, hb, hml, hown, hts⟩ (c_Model_hang l D cI sd ad o_C o_X o_L o_N o_U o_O r37.2 o_Q o_V o_I r38 r3.1 r33.1 r39 hcr39) (cwV2 hts q1249 mvX8_hang rfl rfl ⟨(Nat.le_of_ble_eq_true rfl), (Nat.le_of_ble_eq_true rfl)⟩) hK hE hA hP hD hS 0 (T := TX8) (N := 48) (ci := 8) rfl rfl [0, 1, 2, 3, 4, 5, 6, 7] rfl (by decide) (mrgE rfl rfl) rfl rfl rfl rfl rfl hl.1 (Nat.le_of_ble_eq_true rfl) dX8_settle_97 ⟨Nat.zero_le _, Nat.zero_le _⟩ (fun H locs hP hD hS => ?_)
        refine lv_aload_n hx hb dX8_settle_100 rfl (lv_at hl 3 rfl) ?_
        refine lv_iload_n hx hb dX8_settle_101 rfl (lv_at hl 0 rfl) ?_
        obtain ⟨r40, hcr40, hM⟩ := ob_use hM
        refine cl_V (As := [.int r33.1]) (rest := []) (wM_TOE cI ad o_X o_L o_N r39 o_U o_O r40 o_Q o_V o_I) [] ⟨hx, hb, hml, hown, hts⟩ (c_Model_putOperand l D cI sd ad o_C o_X o_L o_N r39 o_U o_O o_Q o_V o_I r37.2 r33.1 r40 hcr40) (cwV2 hts q1393 mvX8_putOperand rfl rfl ⟨(Nat.le_of_ble_eq_true rfl), (Nat.le_of_ble_eq_true rfl)⟩) hK hE hA hP hD hS 0 (T := TX8) (N := 48) (ci := 8) rfl rfl [0, 8, 9, 10, 11] rfl (by decide) (mrgE rfl rfl) rfl rfl rfl rfl rfl hl.1 (Nat.le_of_ble_eq_true rfl) dX8_settle_102 ⟨Nat.zero_le _, Nat.zero_le _⟩ (fun H locs hP hD hS => ?_)
        cases hM
        exact rt_v hx hb hr hlk hP hD hS rfl dX8_settle_105

set_option maxHeartbeats 4000000 in
set_option maxRecDepth 100000 in
theorem c_Model_operandCame (l : Launch) (D : va_G) (cI : ClassId) (sd : Nat → Nat) (ad : Nat → Nat) (o_C : S_MC) (o_X : S_MX) (o_L : S_ML) (o_N : S_MN) (o_U : S_MU) (o_Q : S_MQ) (o_V : S_MV) (o_I : S_MI) (o_T : S_MT) (o_O : S_MO) (o_E : S_ME) (a1 : Int32) (res : S_MT × S_MO × S_ME) (hM : f_Model_operandCame o_T o_O o_E a1 = some res) : Ctr l D cI sd yX8_operandCame (wsM yX8_operandCame cX8_operandCame 2 (Option.none : Option Jvm.ClassFile.FieldType)) { frames := 2, cells := 0, slots := 0, locals := 46 } [.ref (ad 100), .int a1] (wM_TOE cI ad o_X o_L o_N o_T o_U o_O o_E o_Q o_V o_I) (wM_TOE cI ad o_X o_L o_N res.1 o_U res.2.1 res.2.2 o_Q o_V o_I) none := by
  refine Ctr.of (cc := cX8_operandCame) (maxL := 2) (own := RX8) (by decide +kernel) rfl rfl (Nat.le_of_ble_eq_true rfl) ?_
  intro p e s m below meth c A ls hx hb hr hml hown hts hlk hK hE hA hP hD hS hl
  have hl : lv_has ls 2 [(0, .ref (ad 100)), (1, .int a1)] := hl
  unfold f_Model_operandCame at hM
  refine lv_aload_n hx hb dX8_operandCame_0 rfl (lv_at hl 0 rfl) ?_
  refine lv_iload_n hx hb dX8_operandCame_1 rfl (lv_at hl 1 rfl) ?_
  obtain ⟨r1, hcr1, hM⟩ := ob_use hM
  refine cl_V (As := [.int a1]) (rest := []) (wM_TOE cI ad o_X o_L o_N o_T o_U o_O r1 o_Q o_V o_I) [] ⟨hx, hb, hml, hown, hts⟩ (c_Model_putOperand l D cI sd ad o_C o_X o_L o_N o_T o_U o_O o_Q o_V o_I o_E a1 r1 hcr1) (cwV2 hts q1393 mvX8_putOperand rfl rfl ⟨(Nat.le_of_ble_eq_true rfl), (Nat.le_of_ble_eq_true rfl)⟩) hK hE hA hP hD hS 0 (T := TX8) (N := 48) (ci := 8) rfl rfl [0, 8, 9, 10, 11] rfl (by decide) (mrgE rfl rfl) rfl rfl rfl rfl rfl hl.1 (Nat.le_of_ble_eq_true rfl) dX8_operandCame_2 ⟨Nat.zero_le _, Nat.zero_le _⟩ (fun H locs hP hD hS => ?_)
  have lp_L5 : ∀ (n : Nat) (o_T_L5 : S_MT) (o_O_L5 : S_MO) (o_E_L5 : S_ME) (out_L5 : S_MT × S_MO × S_ME) (H : Heap) (locs : List Loc) (ls : Array Slot), f_Model_operandCame_L5 n o_T_L5 o_O_L5 o_E_L5 = some out_L5 → va_P D vwCl (wM_TOE cI ad o_X o_L o_N o_T_L5 o_U o_O_L5 o_E_L5 o_Q o_V o_I) H → va_D A (wM_TOE cI ad o_X o_L o_N o_T_L5 o_U o_O_L5 o_E_L5 o_Q o_V o_I) → va_S A s.heap H locs → lv_has ls 2 [(0, .ref (ad 100))] → (∀ (H : Heap) (locs : List Loc) (ls : Array Slot), va_P D vwCl (wM_TOE cI ad o_X o_L o_N out_L5.1 o_U out_L5.2.1 out_L5.2.2 o_Q o_V o_I) H → va_D A (wM_TOE cI ad o_X o_L o_N out_L5.1 o_U out_L5.2.1 out_L5.2.2 o_Q o_V o_I) → va_S A s.heap H locs → lv_has ls 2 [(0, .ref (ad 100))] → W p l e { frames := 2, cells := 0, slots := 0, locals := 46 } s m [.ref (ad 100), .int a1].toArray below meth c H locs 0 0 (MQ below (CQ D A (wM_TOE cI ad o_X o_L o_N res.1 o_U res.2.1 res.2.2 o_Q o_V o_I) none) [.ref (ad 100), .int a1].toArray s 0 0 A) (F0 m 28 ls [])) → W p l e { frames := 2, cells := 0, slots := 0, locals := 46 } s m [.ref (ad 100), .int a1].toArray below meth c H locs 0 0 (MQ below (CQ D A (wM_TOE cI ad o_X o_L o_N res.1 o_U res.2.1 res.2.2 o_Q o_V o_I) none) [.ref (ad 100), .int a1].toArray s 0 0 A) (F0 m 5 ls []) := by
    intro  n
    induction n with
    | zero => intro o_T_L5 o_O_L5 o_E_L5 out_L5 H locs ls hM; exact absurd (show none = some _ from hM) (by simp)
    | succ n ih_L5 =>
      intro o_T_L5 o_O_L5 o_E_L5 out_L5 H locs ls hM hP hD hS hl kx_L5
      rw [f_Model_operandCame_L5] at hM
      refine lv_aload_n hx hb dX8_operandCame_5 rfl (lv_at hl 0 rfl) ?_
      refine va_get (D := D) (ci := 8) (v := .ref (ad 117)) (C := RX8) (T := TX8) (N := 48) hx hb hts layX8 hown hK hP 0 rfl rfl 36 (by decide) (hts _ (inA q1014)) (fun _ h9 => h9) rfl dX8_operandCame_6 ?_
      refine lv_aload_n hx hb dX8_operandCame_9 rfl (lv_at hl 0 rfl) ?_
      refine va_get (D := D) (ci := 8) (v := .int o_E_L5.2.1) (C := RX8) (T := TX8) (N := 48) hx hb hts layX8 hown hK hP 0 rfl rfl 35 (by decide) (hts _ (inA q1013)) (fun _ h9 => h9) rfl dX8_operandCame_10 ?_
      refine lv_iconst (v := 1) hx hb dX8_operandCame_13 (by decide) ?_
      refine lv_isub hx hb dX8_operandCame_14 ?_
      obtain ⟨b1151, hM⟩ := gd_use hM
      refine va_iald hx hb hK hP 9 0 rfl rfl b1151 dX8_operandCame_15 ?_
      refine lv_bipush (v := 20) hx hb dX8_operandCame_16 (by decide) ?_
      refine lv_icmp_lt (tgt := 28) hx hb dX8_operandCame_18 (by decide) (fun c1152 => ?_) (fun c1152 => ?_)
      · replace hM := if_t c1152 hM
        cases hM
        exact kx_L5 _ _ _ hP hD hS (lv_sub hl [0] rfl)
      · replace hM := if_f c1152 hM
        refine lv_aload_n hx hb dX8_operandCame_21 rfl (lv_at hl 0 rfl) ?_
        obtain ⟨r1153, hcr1153, hM⟩ := ob_use hM
        refine cl_V (As := []) (rest := []) (wM_TOE cI ad o_X o_L o_N r1153.1 o_U r1153.2.1 r1153.2.2 o_Q o_V o_I) [] ⟨hx, hb, hml, hown, hts⟩ (c_Model_settle l D cI sd ad o_C o_X o_L o_N o_U o_Q o_V o_I o_T_L5 o_O_L5 o_E_L5 r1153 hcr1153) (cwV2 hts q1397 mvX8_settle rfl rfl ⟨(Nat.le_of_ble_eq_true rfl), (Nat.le_of_ble_eq_true rfl)⟩) hK hE hA hP hD hS 0 (T := TX8) (N := 48) (ci := 8) rfl rfl [0, 1, 2, 3, 4, 5, 6, 7, 8, 9, 10, 11] (rng_hi (n := 12) rfl rfl) (by decide) (rng_rep (n := 12) rfl rfl rfl) rfl rfl rfl rfl rfl hl.1 (Nat.le_of_ble_eq_true rfl) dX8_operandCame_22 ⟨Nat.zero_le _, Nat.zero_le _⟩ (fun H locs hP hD hS => ?_)
        refine lv_goto (tgt := 5) hx hb dX8_operandCame_25 (by decide) ?_
        exact ih_L5 r1153.1 r1153.2.1 r1153.2.2 out_L5 _ _ _ hM hP hD hS (lv_sub hl [0] rfl) kx_L5
  obtain ⟨r2, hcr2, hM⟩ := ob_use hM
  refine lp_L5 FU o_T o_O r1 r2 _ _ _ hcr2 hP hD hS (lv_sub hl [0] rfl) (fun H locs ls hP hD hS hl => ?_)
  cases hM
  exact rt_v hx hb hr hlk hP hD hS rfl dX8_operandCame_28

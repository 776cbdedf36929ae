set_option maxHeartbeats 4000000 in
set_option maxRecDepth 100000 in
theorem c_Model_unit (l : Launch) (D : va_G) (cI : ClassId) (sd : Nat → Nat) (ad : Nat → Nat) (o_C : S_MC) (o_N : S_MN) (o_T : S_MT) (o_U : S_MU) (o_O : S_MO) (o_E : S_ME) (o_Q : S_MQ) (o_V : S_MV) (o_I : S_MI) (o_X : S_MX) (o_L : S_ML) (res : Int64 × S_ML) (hM : f_Model_unit o_X o_L = some res) : Ctr l D cI sd yX8_unit (wsM yX8_unit cX8_unit 3 (Option.some Jvm.ClassFile.FieldType.long)) { frames := 1, cells := 0, slots := 0, locals := 21 } [.ref (ad 100)] (wM_XL cI ad o_X o_L o_N o_T o_U o_O o_E o_Q o_V o_I) (wM_XL cI ad o_X res.2 o_N o_T o_U o_O o_E o_Q o_V o_I) (some (.long res.1)) := by
  refine Ctr.of (cc := cX8_unit) (maxL := 3) (own := RX8) (by decide +kernel) rfl rfl (Nat.le_of_ble_eq_true rfl) ?_
  intro p e s m below meth c A ls hx hb hr hml hown hts hlk hK hE hA hP hD hS hl
  have hl : lv_has ls 3 [(0, .ref (ad 100))] := hl
  unfold f_Model_unit at hM
  refine lv_aload_n hx hb dX8_unit_0 rfl (lv_at hl 0 rfl) ?_
  refine lv_aload_n hx hb dX8_unit_1 rfl (lv_at hl 0 rfl) ?_
  refine va_get (D := D) (ci := 8) (v := .int o_L.2.2.2.1) (C := RX8) (T := TX8) (N := 48) hx hb hts layX8 hown hK hP 0 rfl rfl 9 (by decide) (hts _ (inA q987)) (fun _ h9 => h9) rfl dX8_unit_2 ?_
  obtain ⟨r1, hcr1, hM⟩ := ob_use hM
  refine cl_V (As := [.int o_L.2.2.2.1]) (rest := []) (wM_XL cI ad o_X o_L o_N o_T o_U o_O o_E o_Q o_V o_I) (.int r1 :: []) ⟨hx, hb, hml, hown, hts⟩ (c_Model_at l D cI sd ad o_C o_L o_N o_T o_U o_O o_E o_Q o_V o_I o_X o_L.2.2.2.1 r1 hcr1) (cwV2 hts q1159 mvX8_at rfl rfl ⟨(Nat.le_of_ble_eq_true rfl), (Nat.le_of_ble_eq_true rfl)⟩) hK hE hA hP hD hS 0 (T := TX8) (N := 48) (ci := 8) rfl rfl [0, 1] rfl (by decide) rfl rfl rfl rfl rfl rfl hl.1 (Nat.le_of_ble_eq_true rfl) dX8_unit_5 ⟨Nat.zero_le _, Nat.zero_le _⟩ (fun H locs hP hD hS => ?_)
  obtain ⟨r2, hcr2, hM⟩ := ob_use hM
  refine cl_S (As := [.int r1]) (rest := []) (wM_XL cI ad o_X o_L o_N o_T o_U o_O o_E o_Q o_V o_I) (.int r2 :: []) ⟨hx, hb, hml, hown, hts⟩ (c_Model_great l D cI sd ad r1 r2 hcr2) (cwS2 hts q1178 mvX8_great rfl rfl ⟨(Nat.le_of_ble_eq_true rfl), (Nat.le_of_ble_eq_true rfl)⟩) hK hE hA hP hD hS [] rfl (by decide) rfl rfl rfl rfl rfl rfl hl.1 (Nat.le_of_ble_eq_true rfl) dX8_unit_8 ⟨Nat.zero_le _, Nat.zero_le _⟩ (fun H locs hP hD hS => ?_)
  refine lv_istore_n (lv' := [(1, .int r2), (0, .ref (ad 100))]) hx hb dX8_unit_11 rfl hl (by decide) rfl (fun ls hl => ?_)
  refine lv_aload_n hx hb dX8_unit_12 rfl (lv_at hl 1 rfl) ?_
  refine lv_aload_n hx hb dX8_unit_13 rfl (lv_at hl 1 rfl) ?_
  refine va_get (D := D) (ci := 8) (v := .int o_L.2.2.2.1) (C := RX8) (T := TX8) (N := 48) hx hb hts layX8 hown hK hP 0 rfl rfl 9 (by decide) (hts _ (inA q987)) (fun _ h9 => h9) rfl dX8_unit_14 ?_
  refine lv_iconst (v := 1) hx hb dX8_unit_17 (by decide) ?_
  refine lv_iadd hx hb dX8_unit_18 ?_
  obtain ⟨r3, hcr3, hM⟩ := ob_use hM
  refine cl_V (As := [.int (o_L.2.2.2.1 + 1)]) (rest := []) (wM_XL cI ad o_X o_L o_N o_T o_U o_O o_E o_Q o_V o_I) (.int r3 :: []) ⟨hx, hb, hml, hown, hts⟩ (c_Model_at l D cI sd ad o_C o_L o_N o_T o_U o_O o_E o_Q o_V o_I o_X (o_L.2.2.2.1 + 1) r3 hcr3) (cwV2 hts q1159 mvX8_at rfl rfl ⟨(Nat.le_of_ble_eq_true rfl), (Nat.le_of_ble_eq_true rfl)⟩) hK hE hA hP hD hS 0 (T := TX8) (N := 48) (ci := 8) rfl rfl [0, 1] rfl (by decide) rfl rfl rfl rfl rfl rfl hl.1 (Nat.le_of_ble_eq_true rfl) dX8_unit_19 ⟨Nat.zero_le _, Nat.zero_le _⟩ (fun H locs hP hD hS => ?_)
  obtain ⟨r4, hcr4, hM⟩ := ob_use hM
  refine cl_S (As := [.int r3]) (rest := []) (wM_XL cI ad o_X o_L o_N o_T o_U o_O o_E o_Q o_V o_I) (.int r4 :: []) ⟨hx, hb, hml, hown, hts⟩ (c_Model_great l D cI sd ad r3 r4 hcr4) (cwS2 hts q1178 mvX8_great rfl rfl ⟨(Nat.le_of_ble_eq_true rfl), (Nat.le_of_ble_eq_true rfl)⟩) hK hE hA hP hD hS [] rfl (by decide) rfl rfl rfl rfl rfl rfl hl.1 (Nat.le_of_ble_eq_true rfl) dX8_unit_22 ⟨Nat.zero_le _, Nat.zero_le _⟩ (fun H locs hP hD hS => ?_)
  refine lv_istore_n (lv' := [(2, .int r4), (1, .int r2), (0, .ref (ad 100))]) hx hb dX8_unit_25 rfl hl (by decide) rfl (fun ls hl => ?_)
  refine lv_aload_n hx hb dX8_unit_26 rfl (lv_at hl 2 rfl) ?_
  refine lv_dup hx hb dX8_unit_27 rfl ?_
  refine va_get (D := D) (ci := 8) (v := .int o_L.2.2.2.1) (C := RX8) (T := TX8) (N := 48) hx hb hts layX8 hown hK hP 0 rfl rfl 9 (by decide) (hts _ (inA q987)) (fun _ h9 => h9) rfl dX8_unit_28 ?_
  refine lv_iload_n hx hb dX8_unit_31 rfl (lv_at hl 1 rfl) ?_
  refine lv_bipush (v := 77) hx hb dX8_unit_32 (by decide) ?_
  refine lv_icmp_ne (tgt := 47) hx hb dX8_unit_34 (by decide) (fun c5 => ?_) (fun c5 => ?_)
  · replace hM := if_f c5 hM
    refine lv_iconst (v := 1) hx hb dX8_unit_47 (by decide) ?_
    refine lv_iadd hx hb dX8_unit_48 ?_
    refine va_put (D := D) (ci := 8) (v := .int (o_L.2.2.2.1 + 1)) (ty := .int) (C := RX8) (T := TX8) (N := 48) hx hb hts layX8 tyX8 tyX8_ok nmX8 hown hK hP hD hS 0 rfl rfl 9 (by decide) (hts _ (inA q987)) (fun _ h9 => h9) rfl (by decide +kernel) rfl rfl (Nat.le_of_ble_eq_true rfl) dX8_unit_49 (fun H locs hP hD hS => ?_)
    have hP : va_P D vwCl (wM_XL cI ad o_X (o_L.1, o_L.2.1, o_L.2.2.1, o_L.2.2.2.1 + 1, o_L.2.2.2.2) o_N o_T o_U o_O o_E o_Q o_V o_I) H := hP
    have hD : va_D A (wM_XL cI ad o_X (o_L.1, o_L.2.1, o_L.2.2.1, o_L.2.2.2.1 + 1, o_L.2.2.2.2) o_N o_T o_U o_O o_E o_Q o_V o_I) := hD
    refine lv_iload_n hx hb dX8_unit_52 rfl (lv_at hl 1 rfl) ?_
    refine lv_bipush (v := 77) hx hb dX8_unit_53 (by decide) ?_
    refine lv_icmp_ne (tgt := 68) hx hb dX8_unit_55 (by decide) (fun c6 => ?_) (fun c6 => ?_)
    · replace hM := if_f c6 hM
      refine lv_iload_n hx hb dX8_unit_68 rfl (lv_at hl 1 rfl) ?_
      refine lv_bipush (v := 83) hx hb dX8_unit_69 (by decide) ?_
      refine lv_icmp_ne (tgt := 80) hx hb dX8_unit_71 (by decide) (fun c7 => ?_) (fun c7 => ?_)
      · replace hM := if_f c7 hM
        refine lv_iload_n hx hb dX8_unit_80 rfl (lv_at hl 1 rfl) ?_
        refine lv_bipush (v := 77) hx hb dX8_unit_81 (by decide) ?_
        refine lv_icmp_ne (tgt := 92) hx hb dX8_unit_83 (by decide) (fun c8 => ?_) (fun c8 => ?_)
        · replace hM := if_f c8 hM
          refine lv_iload_n hx hb dX8_unit_92 rfl (lv_at hl 1 rfl) ?_
          refine lv_bipush (v := 72) hx hb dX8_unit_93 (by decide) ?_
          refine lv_icmp_ne (tgt := 104) hx hb dX8_unit_95 (by decide) (fun c9 => ?_) (fun c9 => ?_)
          · replace hM := if_f c9 hM
            refine lv_lconst (v := 0) hx hb dX8_unit_104 (by decide) ?_
            cases hM
            exact rt_l hx hb hr hlk hP hD hS rfl dX8_unit_105
          · replace hM := if_t c9 hM
            refine lv_ldc2 (v := 3600000) hx hb hown (hts _ (inA q1192)) dX8_unit_98 ?_
            refine lv_goto (tgt := 105) hx hb dX8_unit_101 (by decide) ?_
            cases hM
            exact rt_l hx hb hr hlk hP hD hS rfl dX8_unit_105
        · replace hM := if_t c8 hM
          refine lv_ldc2 (v := 60000) hx hb hown (hts _ (inA q1191)) dX8_unit_86 ?_
          refine lv_goto (tgt := 105) hx hb dX8_unit_89 (by decide) ?_
          cases hM
          exact rt_l hx hb hr hlk hP hD hS rfl dX8_unit_105
      · replace hM := if_t c7 hM
        refine lv_ldc2 (v := 1000) hx hb hown (hts _ (inA q1190)) dX8_unit_74 ?_
        refine lv_goto (tgt := 105) hx hb dX8_unit_77 (by decide) ?_
        cases hM
        exact rt_l hx hb hr hlk hP hD hS rfl dX8_unit_105
    · replace hM := if_t c6 hM
      refine lv_iload_n hx hb dX8_unit_58 rfl (lv_at hl 0 rfl) ?_
      refine lv_bipush (v := 83) hx hb dX8_unit_59 (by decide) ?_
      refine lv_icmp_ne (tgt := 68) hx hb dX8_unit_61 (by decide) (fun c10 => ?_) (fun c10 => ?_)
      · replace hM := if_f c10 hM
        refine lv_iload_n hx hb dX8_unit_68 rfl (lv_at hl 1 rfl) ?_
        refine lv_bipush (v := 83) hx hb dX8_unit_69 (by decide) ?_
        refine lv_icmp_ne (tgt := 80) hx hb dX8_unit_71 (by decide) (fun c11 => ?_) (fun c11 => ?_)
        · replace hM := if_f c11 hM
          refine lv_iload_n hx hb dX8_unit_80 rfl (lv_at hl 1 rfl) ?_
          refine lv_bipush (v := 77) hx hb dX8_unit_81 (by decide) ?_
          refine lv_icmp_ne (tgt := 92) hx hb dX8_unit_83 (by decide) (fun c12 => ?_) (fun c12 => ?_)
          · replace hM := if_f c12 hM
            refine lv_iload_n hx hb dX8_unit_92 rfl (lv_at hl 1 rfl) ?_
            refine lv_bipush (v := 72) hx hb dX8_unit_93 (by decide) ?_
            refine lv_icmp_ne (tgt := 104) hx hb dX8_unit_95 (by decide) (fun c13 => ?_) (fun c13 => ?_)
            · replace hM := if_f c13 hM
              refine lv_lconst (v := 0) hx hb dX8_unit_104 (by decide) ?_
              cases hM
              exact rt_l hx hb hr hlk hP hD hS rfl dX8_unit_105
            · replace hM := if_t c13 hM
              refine lv_ldc2 (v := 3600000) hx hb hown (hts _ (inA q1192)) dX8_unit_98 ?_
              refine lv_goto (tgt := 105) hx hb dX8_unit_101 (by decide) ?_
              cases hM
              exact rt_l hx hb hr hlk hP hD hS rfl dX8_unit_105
          · replace hM := if_t c12 hM
            refine lv_ldc2 (v := 60000) hx hb hown (hts _ (inA q1191)) dX8_unit_86 ?_
            refine lv_goto (tgt := 105) hx hb dX8_unit_89 (by decide) ?_
            cases hM
            exact rt_l hx hb hr hlk hP hD hS rfl dX8_unit_105
        · replace hM := if_t c11 hM
          refine lv_ldc2 (v := 1000) hx hb hown (hts _ (inA q1190)) dX8_unit_74 ?_
          refine lv_goto (tgt := 105) hx hb dX8_unit_77 (by decide) ?_
          cases hM
          exact rt_l hx hb hr hlk hP hD hS rfl dX8_unit_105
      · replace hM := if_t c10 hM
        refine lv_lconst (v := 1) hx hb dX8_unit_64 (by decide) ?_
        refine lv_goto (tgt := 105) hx hb dX8_unit_65 (by decide) ?_
        cases hM
        exact rt_l hx hb hr hlk hP hD hS rfl dX8_unit_105
  · replace hM := if_t c5 hM
    refine lv_iload_n hx hb dX8_unit_37 rfl (lv_at hl 0 rfl) ?_
    refine lv_bipush (v := 83) hx hb dX8_unit_38 (by decide) ?_
    refine lv_icmp_ne (tgt := 47) hx hb dX8_unit_40 (by decide) (fun c14 => ?_) (fun c14 => ?_)
    · replace hM := if_f c14 hM
      refine lv_iconst (v := 1) hx hb dX8_unit_47 (by decide) ?_
      refine lv_iadd hx hb dX8_unit_48 ?_
      refine va_put (D := D) (ci := 8) (v := .int (o_L.2.2.2.1 + 1)) (ty := .int) (C := RX8) (T := TX8) (N := 48) hx hb hts layX8 tyX8 tyX8_ok nmX8 hown hK hP hD hS 0 rfl rfl 9 (by decide) (hts _ (inA q987)) (fun _ h9 => h9) rfl (by decide +kernel) rfl rfl (Nat.le_of_ble_eq_true rfl) dX8_unit_49 (fun H locs hP hD hS => ?_)
      have hP : va_P D vwCl (wM_XL cI ad o_X (o_L.1, o_L.2.1, o_L.2.2.1, o_L.2.2.2.1 + 1, o_L.2.2.2.2) o_N o_T o_U o_O o_E o_Q o_V o_I) H := hP
      have hD : va_D A (wM_XL cI ad o_X (o_L.1, o_L.2.1, o_L.2.2.1, o_L.2.2.2.1 + 1, o_L.2.2.2.2) o_N o_T o_U o_O o_E o_Q o_V o_I) := hD
      refine lv_iload_n hx hb dX8_unit_52 rfl (lv_at hl 1 rfl) ?_
      refine lv_bipush (v := 77) hx hb dX8_unit_53 (by decide) ?_
      refine lv_icmp_ne (tgt := 68) hx hb dX8_unit_55 (by decide) (fun c15 => ?_) (fun c15 => ?_)
      · replace hM := if_f c15 hM
        refine lv_iload_n hx hb dX8_unit_68 rfl (lv_at hl 1 rfl) ?_
        refine lv_bipush (v := 83) hx hb dX8_unit_69 (by decide) ?_
        refine lv_icmp_ne (tgt := 80) hx hb dX8_unit_71 (by decide) (fun c16 => ?_) (fun c16 => ?_)
        · replace hM := if_f c16 hM
          refine lv_iload_n hx hb dX8_unit_80 rfl (lv_at hl 1 rfl) ?_
          refine lv_bipush (v := 77) hx hb dX8_unit_81 (by decide) ?_
          refine lv_icmp_ne (tgt := 92) hx hb dX8_unit_83 (by decide) (fun c17 => ?_) (fun c17 => ?_)
          · replace hM := if_f c17 hM
            refine lv_iload_n hx hb dX8_unit_92 rfl (lv_at hl 1 rfl) ?_
            refine lv_bipush (v := 72) hx hb dX8_unit_93 (by decide) ?_
            refine lv_icmp_ne (tgt := 104) hx hb dX8_unit_95 (by decide) (fun c18 => ?_) (fun c18 => ?_)
            · replace hM := if_f c18 hM
              refine lv_lconst (v := 0) hx hb dX8_unit_104 (by decide) ?_
              cases hM
              exact rt_l hx hb hr hlk hP hD hS rfl dX8_unit_105
            · replace hM := if_t c18 hM
              refine lv_ldc2 (v := 3600000) hx hb hown (hts _ (inA q1192)) dX8_unit_98 ?_
              refine lv_goto (tgt := 105) hx hb dX8_unit_101 (by decide) ?_
              cases hM
              exact rt_l hx hb hr hlk hP hD hS rfl dX8_unit_105
          · replace hM := if_t c17 hM
            refine lv_ldc2 (v := 60000) hx hb hown (hts _ (inA q1191)) dX8_unit_86 ?_
            refine lv_goto (tgt := 105) hx hb dX8_unit_89 (by decide) ?_
            cases hM
            exact rt_l hx hb hr hlk hP hD hS rfl dX8_unit_105
        · replace hM := if_t c16 hM
          refine lv_ldc2 (v := 1000) hx hb hown (hts _ (inA q1190)) dX8_unit_74 ?_
          refine lv_goto (tgt := 105) hx hb dX8_unit_77 (by decide) ?_
          cases hM
          exact rt_l hx hb hr hlk hP hD hS rfl dX8_unit_105
      · replace hM := if_t c15 hM
        refine lv_iload_n hx hb dX8_unit_58 rfl (lv_at hl 0 rfl) ?_
        refine lv_bipush (v := 83) hx hb dX8_unit_59 (by decide) ?_
        refine lv_icmp_ne (tgt := 68) hx hb dX8_unit_61 (by decide) (fun c19 => ?_) (fun c19 => ?_)
        · replace hM := if_f c19 hM
          refine lv_iload_n hx hb dX8_unit_68 rfl (lv_at hl 1 rfl) ?_
          refine lv_bipush (v := 83) hx hb dX8_unit_69 (by decide) ?_
          refine lv_icmp_ne (tgt := 80) hx hb dX8_unit_71 (by decide) (fun c20 => ?_) (fun c20 => ?_)
          · replace hM := if_f c20 hM
            refine lv_iload_n hx hb dX8_unit_80 rfl (lv_at hl 1 rfl) ?_
            refine lv_bipush (v := 77) hx hb dX8_unit_81 (by decide) ?_
            refine lv_icmp_ne (tgt := 92) hx hb dX8_unit_83 (by decide) (fun c21 => ?_) (fun c21 => ?_)
            · replace hM := if_f c21 hM
              refine lv_iload_n hx hb dX8_unit_92 rfl (lv_at hl 1 rfl) ?_
              refine lv_bipush (v := 72) hx hb dX8_unit_93 (by decide) ?_
              refine lv_icmp_ne (tgt := 104) hx hb dX8_unit_95 (by decide) (fun c22 => ?_) (fun c22 => ?_)
              · replace hM := if_f c22 hM
                refine lv_lconst (v := 0) hx hb dX8_unit_104 (by decide) ?_
                cases hM
                exact rt_l hx hb hr hlk hP hD hS rfl dX8_unit_105
              · replace hM := if_t c22 hM
                refine lv_ldc2 (v := 3600000) hx hb hown (hts _ (inA q1192)) dX8_unit_98 ?_
                refine lv_goto (tgt := 105) hx hb dX8_unit_101 (by decide) ?_
                cases hM
                exact rt_l hx hb hr hlk hP hD hS rfl dX8_unit_105
            · replace hM := if_t c21 hM
              refine lv_ldc2 (v := 60000) hx hb hown (hts _ (inA q1191)) dX8_unit_86 ?_
              refine lv_goto (tgt := 105) hx hb dX8_unit_89 (by decide) ?_
              cases hM
              exact rt_l hx hb hr hlk hP hD hS rfl dX8_unit_105
          · replace hM := if_t c20 hM
            refine lv_ldc2 (v := 1000) hx hb hown (hts _ (inA q1190)) dX8_unit_74 ?_
            refine lv_goto (tgt := 105) hx hb dX8_unit_77 (by decide) ?_
            cases hM
            exact rt_l hx hb hr hlk hP hD hS rfl dX8_unit_105
        · replace hM := if_t c19 hM
          refine lv_lconst (v := 1) hx hb dX8_unit_64 (by decide) ?_
          refine lv_goto (tgt := 105) hx hb dX8_unit_65 (by decide) ?_
          cases hM
          exact rt_l hx hb hr hlk hP hD hS rfl dX8_unit_105
    · replace hM := if_t c14 hM
      refine lv_iconst (v := 2) hx hb dX8_unit_43 (by decide) ?_
      refine lv_goto (tgt := 48) hx hb dX8_unit_44 (by decide) ?_
      refine lv_iadd hx hb dX8_unit_48 ?_
      refine va_put (D := D) (ci := 8) (v := .int (o_L.2.2.2.1 + 2)) (ty := .int) (C := RX8) (T := TX8) (N := 48) hx hb hts layX8 tyX8 tyX8_ok nmX8 hown hK hP hD hS 0 rfl rfl 9 (by decide) (hts _ (inA q987)) (fun _ h9 => h9) rfl (by decide +kernel) rfl rfl (Nat.le_of_ble_eq_true rfl) dX8_unit_49 (fun H locs hP hD hS => ?_)
      have hP : va_P D vwCl (wM_XL cI ad o_X (o_L.1, o_L.2.1, o_L.2.2.1, o_L.2.2.2.1 + 2, o_L.2.2.2.2) o_N o_T o_U o_O o_E o_Q o_V o_I) H := hP
      have hD : va_D A (wM_XL cI ad o_X (o_L.1, o_L.2.1, o_L.2.2.1, o_L.2.2.2.1 + 2, o_L.2.2.2.2) o_N o_T o_U o_O o_E o_Q o_V o_I) := hD
      refine lv_iload_n hx hb dX8_unit_52 rfl (lv_at hl 1 rfl) ?_
      refine lv_bipush (v := 77) hx hb dX8_unit_53 (by decide) ?_
      refine lv_icmp_ne (tgt := 68) hx hb dX8_unit_55 (by decide) (fun c23 => ?_) (fun c23 => ?_)
      · replace hM := if_f c23 hM
        refine lv_iload_n hx hb dX8_unit_68 rfl (lv_at hl 1 rfl) ?_
        refine lv_bipush (v := 83) hx hb dX8_unit_69 (by decide) ?_
        refine lv_icmp_ne (tgt := 80) hx hb dX8_unit_71 (by decide) (fun c24 => ?_) (fun c24 => ?_)
        · replace hM := if_f c24 hM
          refine lv_iload_n hx hb dX8_unit_80 rfl (lv_at hl 1 rfl) ?_
          refine lv_bipush (v := 77) hx hb dX8_unit_81 (by decide) ?_
          refine lv_icmp_ne (tgt := 92) hx hb dX8_unit_83 (by decide) (fun c25 => ?_) (fun c25 => ?_)
          · replace hM := if_f c25 hM
            refine lv_iload_n hx hb dX8_unit_92 rfl (lv_at hl 1 rfl) ?_
            refine lv_bipush (v := 72) hx hb dX8_unit_93 (by decide) ?_
            refine lv_icmp_ne (tgt := 104) hx hb dX8_unit_95 (by decide) (fun c26 => ?_) (fun c26 => ?_)
            · replace hM := if_f c26 hM
              refine lv_lconst (v := 0) hx hb dX8_unit_104 (by decide) ?_
              cases hM
              exact rt_l hx hb hr hlk hP hD hS rfl dX8_unit_105
            · replace hM := if_t c26 hM
              refine lv_ldc2 (v := 3600000) hx hb hown (hts _ (inA q1192)) dX8_unit_98 ?_
              refine lv_goto (tgt := 105) hx hb dX8_unit_101 (by decide) ?_
              cases hM
              exact rt_l hx hb hr hlk hP hD hS rfl dX8_unit_105
          · replace hM := if_t c25 hM
            refine lv_ldc2 (v := 60000) hx hb hown (hts _ (inA q1191)) dX8_unit_86 ?_
            refine lv_goto (tgt := 105) hx hb dX8_unit_89 (by decide) ?_
            cases hM
            exact rt_l hx hb hr hlk hP hD hS rfl dX8_unit_105
        · replace hM := if_t c24 hM
          refine lv_ldc2 (v := 1000) hx hb hown (hts _ (inA q1190)) dX8_unit_74 ?_
          refine lv_goto (tgt := 105) hx hb dX8_unit_77 (by decide) ?_
          cases hM
          exact rt_l hx hb hr hlk hP hD hS rfl dX8_unit_105
      · replace hM := if_t c23 hM
        refine lv_iload_n hx hb dX8_unit_58 rfl (lv_at hl 0 rfl) ?_
        refine lv_bipush (v := 83) hx hb dX8_unit_59 (by decide) ?_
        refine lv_icmp_ne (tgt := 68) hx hb dX8_unit_61 (by decide) (fun c27 => ?_) (fun c27 => ?_)
        · replace hM := if_f c27 hM
          refine lv_iload_n hx hb dX8_unit_68 rfl (lv_at hl 1 rfl) ?_
          refine lv_bipush (v := 83) hx hb dX8_unit_69 (by decide) ?_
          refine lv_icmp_ne (tgt := 80) hx hb dX8_unit_71 (by decide) (fun c28 => ?_) (fun c28 => ?_)
          · replace hM := if_f c28 hM
            refine lv_iload_n hx hb dX8_unit_80 rfl (lv_at hl 1 rfl) ?_
            refine lv_bipush (v := 77) hx hb dX8_unit_81 (by decide) ?_
            refine lv_icmp_ne (tgt := 92) hx hb dX8_unit_83 (by decide) (fun c29 => ?_) (fun c29 => ?_)
            · replace hM := if_f c29 hM
              refine lv_iload_n hx hb dX8_unit_92 rfl (lv_at hl 1 rfl) ?_
              refine lv_bipush (v := 72) hx hb dX8_unit_93 (by decide) ?_
              refine lv_icmp_ne (tgt := 104) hx hb dX8_unit_95 (by decide) (fun c30 => ?_) (fun c30 => ?_)
              · replace hM := if_f c30 hM
                refine lv_lconst (v := 0) hx hb dX8_unit_104 (by decide) ?_
                cases hM
                exact rt_l hx hb hr hlk hP hD hS rfl dX8_unit_105
              · replace hM := if_t c30 hM
                refine lv_ldc2 (v := 3600000) hx hb hown (hts _ (inA q1192)) dX8_unit_98 ?_
                refine lv_goto (tgt := 105) hx hb dX8_unit_101 (by decide) ?_
                cases hM
                exact rt_l hx hb hr hlk hP hD hS rfl dX8_unit_105
            · replace hM := if_t c29 hM
              refine lv_ldc2 (v := 60000) hx hb hown (hts _ (inA q1191)) dX8_unit_86 ?_
              refine lv_goto (tgt := 105) hx hb dX8_unit_89 (by decide) ?_
              cases hM
              exact rt_l hx hb hr hlk hP hD hS rfl dX8_unit_105
          · replace hM := if_t c28 hM
            refine lv_ldc2 (v := 1000) hx hb hown (hts _ (inA q1190)) dX8_unit_74 ?_
            refine lv_goto (tgt := 105) hx hb dX8_unit_77 (by decide) ?_
            cases hM
            exact rt_l hx hb hr hlk hP hD hS rfl dX8_unit_105
        · replace hM := if_t c27 hM
          refine lv_lconst (v := 1) hx hb dX8_unit_64 (by decide) ?_
          refine lv_goto (tgt := 105) hx hb dX8_unit_65 (by decide) ?_
          cases hM
          exact rt_l hx hb hr hlk hP hD hS rfl dX8_unit_105

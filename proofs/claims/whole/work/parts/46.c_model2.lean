set_option maxHeartbeats 4000000 in
set_option maxRecDepth 100000 in
theorem c_Model_unit (l : Launch) (D : va_G) (cI : ClassId) (sd : Nat → Nat) (ad : Nat → Nat) (o_C : S_MC) (o_N : S_MN) (o_T : S_MT) (o_U : S_MU) (o_O : S_MO) (o_E : S_ME) (o_Q : S_MQ) (o_V : S_MV) (o_I : S_MI) (o_X : S_MX) (o_L : S_ML) (res : Int64 × S_ML) (hM : f_Model_unit o_X o_L = some res) : Ctr l D cI sd yX8_unit (wsM yX8_unit cX8_unit 3 (Option.some Jvm.ClassFile.FieldType.long)) { frames := 1, cells := 0, slots := 0, locals := 21 } [.ref (ad 100)] (wM0 ad o_X o_L o_N o_T o_U o_O o_E o_Q o_V o_I ++ wMX cI ad o_X) (wM0 ad o_X res.2 o_N o_T o_U o_O o_E o_Q o_V o_I ++ wMX cI ad o_X) (some (.long res.1)) := by
  refine Ctr.of (cc := cX8_unit) (maxL := 3) (own := RX8) (by decide +kernel) rfl rfl (Nat.le_of_ble_eq_true rfl) ?_
  intro p e s m below meth c A ls hx hb hr hml hown hts hlk hK hE hA hP hD hS hl
  have hl : lv_has ls 3 [(0, .ref (ad 100))] := hl
  unfold f_Model_unit at hM
  refine lv_aload_n hx hb dX8_unit_0 rfl (lv_at hl 0 rfl) ?_
  refine lv_aload_n hx hb dX8_unit_1 rfl (lv_at hl 0 rfl) ?_
  refine va_get (D := D) (ci := 8) (v := .int o_L.2.2.2.1) (C := RX8) (T := TX8) (N := 48) hx hb hts layX8 hown hK hP 0 rfl rfl 9 (by decide) (hts _ (inA q987)) (fun _ h9 => h9) rfl dX8_unit_2 ?_
  obtain ⟨r1, hcr1, hM⟩ := ob_use hM
  refine cl_V (As := [.int o_L.2.2.2.1]) (rest := []) (wM0 ad o_X o_L o_N o_T o_U o_O o_E o_Q o_V o_I ++ wMX cI ad o_X) (.int r1 :: []) ⟨hx, hb, hml, hown, hts⟩ (c_Model_at l D cI sd ad o_C o_L o_N o_T o_U o_O o_E o_Q o_V o_I o_X o_L.2.2.2.1 r1 hcr1) (cwV2 hts q1159 mvX8_at rfl rfl ⟨(Nat.le_of_ble_eq_true rfl), (Nat.le_of_ble_eq_true rfl)⟩) hK hE hA hP hD hS 0 (T := TX8) (N := 48) (ci := 8) rfl rfl [0, 1] rfl (by decide) rfl rfl rfl rfl rfl rfl hl.1 (Nat.le_of_ble_eq_true rfl) dX8_unit_5 ⟨Nat.zero_le _, Nat.zero_le _⟩ (fun H locs hP hD hS => ?_)
  obtain ⟨r2, hcr2, hM⟩ := ob_use hM
  refine cl_S (As := [.int r1]) (rest := []) (wM0 ad o_X o_L o_N o_T o_U o_O o_E o_Q o_V o_I ++ wMX cI ad o_X) (.int r2 :: []) ⟨hx, hb, hml, hown, hts⟩ (c_Model_great l D cI sd ad r1 r2 hcr2) (cwS2 hts q1178 mvX8_great rfl rfl ⟨(Nat.le_of_ble_eq_true rfl), (Nat.le_of_ble_eq_true rfl)⟩) hK hE hA hP hD hS [] rfl (by decide) rfl rfl rfl rfl rfl rfl hl.1 (Nat.le_of_ble_eq_true rfl) dX8_unit_8 ⟨Nat.zero_le _, Nat.zero_le _⟩ (fun H locs hP hD hS => ?_)
  refine lv_istore_n (lv' := [(1, .int r2), (0, .ref (ad 100))]) hx hb dX8_unit_11 rfl hl (by decide) rfl (fun ls hl => ?_)
  refine lv_aload_n hx hb dX8_unit_12 rfl (lv_at hl 1 rfl) ?_
  refine lv_aload_n hx hb dX8_unit_13 rfl (lv_at hl 1 rfl) ?_
  refine va_get (D := D) (ci := 8) (v := .int o_L.2.2.2.1) (C := RX8) (T := TX8) (N := 48) hx hb hts layX8 hown hK hP 0 rfl rfl 9 (by decide) (hts _ (inA q987)) (fun _ h9 => h9) rfl dX8_unit_14 ?_
  refine lv_iconst (v := 1) hx hb dX8_unit_17 (by decide) ?_
  refine lv_iadd hx hb dX8_unit_18 ?_
  obtain ⟨r3, hcr3, hM⟩ := ob_use hM
  refine cl_V (As := [.int (o_L.2.2.2.1 + 1)]) (rest := []) (wM0 ad o_X o_L o_N o_T o_U o_O o_E o_Q o_V o_I ++ wMX cI ad o_X) (.int r3 :: []) ⟨hx, hb, hml, hown, hts⟩ (c_Model_at l D cI sd ad o_C o_L o_N o_T o_U o_O o_E o_Q o_V o_I o_X (o_L.2.2.2.1 + 1) r3 hcr3) (cwV2 hts q1159 mvX8_at rfl rfl ⟨(Nat.le_of_ble_eq_true rfl), (Nat.le_of_ble_eq_true rfl)⟩) hK hE hA hP hD hS 0 (T := TX8) (N := 48) (ci := 8) rfl rfl [0, 1] rfl (by decide) rfl rfl rfl rfl rfl rfl hl.1 (Nat.le_of_ble_eq_true rfl) dX8_unit_19 ⟨Nat.zero_le _, Nat.zero_le _⟩ (fun H locs hP hD hS => ?_)
  obtain ⟨r4, hcr4, hM⟩ := ob_use hM
  refine cl_S (As := [.int r3]) (rest := []) (wM0 ad o_X o_L o_N o_T o_U o_O o_E o_Q o_V o_I ++ wMX cI ad o_X) (.int r4 :: []) ⟨hx, hb, hml, hown, hts⟩ (c_Model_great l D cI sd ad r3 r4 hcr4) (cwS2 hts q1178 mvX8_great rfl rfl ⟨(Nat.le_of_ble_eq_true rfl), (Nat.le_of_ble_eq_true rfl)⟩) hK hE hA hP hD hS [] rfl (by decide) rfl rfl rfl rfl rfl rfl hl.1 (Nat.le_of_ble_eq_true rfl) dX8_unit_22 ⟨Nat.zero_le _, Nat.zero_le _⟩ (fun H locs hP hD hS => ?_)
  refine lv_istore_n (lv' := [(2, .int r4), (1, .int r2), (0, .ref (ad 100))]) hx hb dX8_unit_25 rfl hl (by decide) rfl (fun ls hl => ?_)
  refine lv_aload_n hx hb dX8_unit_26 rfl (lv_at hl 2 rfl) ?_
  refine lv_dup hx hb dX8_unit_27 rfl ?_
  refine va_get (D := D) (ci := 8) (v := .int o_L.2.2.2.1) (C := RX8) (T := TX8) (N := 48) hx hb hts layX8 hown hK hP 0 rfl rfl 9 (by decide) (hts _ (inA q987)) (fun _ h9 => h9) rfl dX8_unit_28 ?_
  refine lv_iload_n hx hb dX8_unit_31 rfl (lv_at hl 1 rfl) ?_
  refine lv_bipush (v := 77) hx hb dX8_unit_32 (by decide) ?_
  refine lv_icmp_ne (tgt := 47) hx hb dX8_unit_34 (by decide) (fun c5 => ?_) (fun c5 => ?_)
  · replace hM := if_f c5 hM
    refine lv_iconst (v := 1) hx hb dX8_unit_47 (by decide) ?_
    refine lv_iadd hx hb dX8_unit_48 ?_
    refine va_put (D := D) (ci := 8) (v := .int (o_L.2.2.2.1 + 1)) (ty := .int) (C := RX8) (T := TX8) (N := 48) hx hb hts layX8 tyX8 tyX8_ok nmX8 hown hK hP hD hS 0 rfl rfl 9 (by decide) (hts _ (inA q987)) (fun _ h9 => h9) rfl (by decide +kernel) rfl rfl (Nat.le_of_ble_eq_true rfl) dX8_unit_49 (fun H locs hP hD hS => ?_)
    have hP : va_P D vwCl (wM0 ad o_X (o_L.1, o_L.2.1, o_L.2.2.1, o_L.2.2.2.1 + 1, o_L.2.2.2.2) o_N o_T o_U o_O o_E o_Q o_V o_I ++ wMX cI ad o_X) H := hP
    have hD : va_D A (wM0 ad o_X (o_L.1, o_L.2.1, o_L.2.2.1, o_L.2.2.2.1 + 1, o_L.2.2.2.2) o_N o_T o_U o_O o_E o_Q o_V o_I ++ wMX cI ad o_X) := hD
    refine lv_iload_n hx hb dX8_unit_52 rfl (lv_at hl 1 rfl) ?_
    refine lv_bipush (v := 77) hx hb dX8_unit_53 (by decide) ?_
    refine lv_icmp_ne (tgt := 68) hx hb dX8_unit_55 (by decide) (fun c6 => ?_) (fun c6 => ?_)
    · replace hM := if_f c6 hM
      refine lv_iload_n hx hb dX8_unit_68 rfl (lv_at hl 1 rfl) ?_
      refine lv_bipush (v := 83) hx hb dX8_unit_69 (by decide) ?_
      refine lv_icmp_ne (tgt := 80) hx hb dX8_unit_71 (by decide) (fun c7 => ?_) (fun c7 => ?_)
      · replace hM := if_f c7 hM
        refine lv_iload_n hx hb dX8_unit_80 rfl (lv_at hl 1 rfl) ?_
        refine lv_bipush (v := 77) hx hb dX8_unit_81 (by decide) ?_
        refine lv_icmp_ne (tgt := 92) hx hb dX8_unit_83 (by decide) (fun c8 => ?_) (fun c8 => ?_)
        · replace hM := if_f c8 hM
          refine lv_iload_n hx hb dX8_unit_92 rfl (lv_at hl 1 rfl) ?_
          refine lv_bipush (v := 72) hx hb dX8_unit_93 (by decide) ?_
          refine lv_icmp_ne (tgt := 104) hx hb dX8_unit_95 (by decide) (fun c9 => ?_) (fun c9 => ?_)
          · replace hM := if_f c9 hM
            refine lv_lconst (v := 0) hx hb dX8_unit_104 (by decide) ?_
            cases hM
            exact rt_l hx hb hr hlk hP hD hS rfl dX8_unit_105
          · replace hM := if_t c9 hM
            refine lv_ldc2 (v := 3600000) hx hb hown (hts _ (inA q1192)) dX8_unit_98 ?_
            refine lv_goto (tgt := 105) hx hb dX8_unit_101 (by decide) ?_
            cases hM
            exact rt_l hx hb hr hlk hP hD hS rfl dX8_unit_105
        · replace hM := if_t c8 hM
          refine lv_ldc2 (v := 60000) hx hb hown (hts _ (inA q1191)) dX8_unit_86 ?_
          refine lv_goto (tgt := 105) hx hb dX8_unit_89 (by decide) ?_
          cases hM
          exact rt_l hx hb hr hlk hP hD hS rfl dX8_unit_105
      · replace hM := if_t c7 hM
        refine lv_ldc2 (v := 1000) hx hb hown (hts _ (inA q1190)) dX8_unit_74 ?_
        refine lv_goto (tgt := 105) hx hb dX8_unit_77 (by decide) ?_
        cases hM
        exact rt_l hx hb hr hlk hP hD hS rfl dX8_unit_105
    · replace hM := if_t c6 hM
      refine lv_iload_n hx hb dX8_unit_58 rfl (lv_at hl 0 rfl) ?_
      refine lv_bipush (v := 83) hx hb dX8_unit_59 (by decide) ?_
      refine lv_icmp_ne (tgt := 68) hx hb dX8_unit_61 (by decide) (fun c10 => ?_) (fun c10 => ?_)
      · replace hM := if_f c10 hM
        refine lv_iload_n hx hb dX8_unit_68 rfl (lv_at hl 1 rfl) ?_
        refine lv_bipush (v := 83) hx hb dX8_unit_69 (by decide) ?_
        refine lv_icmp_ne (tgt := 80) hx hb dX8_unit_71 (by decide) (fun c11 => ?_) (fun c11 => ?_)
        · replace hM := if_f c11 hM
          refine lv_iload_n hx hb dX8_unit_80 rfl (lv_at hl 1 rfl) ?_
          refine lv_bipush (v := 77) hx hb dX8_unit_81 (by decide) ?_
          refine lv_icmp_ne (tgt := 92) hx hb dX8_unit_83 (by decide) (fun c12 => ?_) (fun c12 => ?_)
          · replace hM := if_f c12 hM
            refine lv_iload_n hx hb dX8_unit_92 rfl (lv_at hl 1 rfl) ?_
            refine lv_bipush (v := 72) hx hb dX8_unit_93 (by decide) ?_
            refine lv_icmp_ne (tgt := 104) hx hb dX8_unit_95 (by decide) (fun c13 => ?_) (fun c13 => ?_)
            · replace hM := if_f c13 hM
              refine lv_lconst (v := 0) hx hb dX8_unit_104 (by decide) ?_
              cases hM
              exact rt_l hx hb hr hlk hP hD hS rfl dX8_unit_105
            · replace hM := if_t c13 hM
              refine lv_ldc2 (v := 3600000) hx hb hown (hts _ (inA q1192)) dX8_unit_98 ?_
              refine lv_goto (tgt := 105) hx hb dX8_unit_101 (by decide) ?_
              cases hM
              exact rt_l hx hb hr hlk hP hD hS rfl dX8_unit_105
          · replace hM := if_t c12 hM
            refine lv_ldc2 (v := 60000) hx hb hown (hts _ (inA q1191)) dX8_unit_86 ?_
            refine lv_goto (tgt := 105) hx hb dX8_unit_89 (by decide) ?_
            cases hM
            exact rt_l hx hb hr hlk hP hD hS rfl dX8_unit_105
        · replace hM := if_t c11 hM
          refine lv_ldc2 (v := 1000) hx hb hown (hts _ (inA q1190)) dX8_unit_74 ?_
          refine lv_goto (tgt := 105) hx hb dX8_unit_77 (by decide) ?_
          cases hM
          exact rt_l hx hb hr hlk hP hD hS rfl dX8_unit_105
      · replace hM := if_t c10 hM
        refine lv_lconst (v := 1) hx hb dX8_unit_64 (by decide) ?_
        refine lv_goto (tgt := 105) hx hb dX8_unit_65 (by decide) ?_
        cases hM
        exact rt_l hx hb hr hlk hP hD hS rfl dX8_unit_105
  · replace hM := if_t c5 hM
    refine lv_iload_n hx hb dX8_unit_37 rfl (lv_at hl 0 rfl) ?_
    refine lv_bipush (v := 83) hx hb dX8_unit_38 (by decide) ?_
    refine lv_icmp_ne (tgt := 47) hx hb dX8_unit_40 (by decide) (fun c14 => ?_) (fun c14 => ?_)
    · replace hM := if_f c14 hM
      refine lv_iconst (v := 1) hx hb dX8_unit_47 (by decide) ?_
      refine lv_iadd hx hb dX8_unit_48 ?_
      refine va_put (D := D) (ci := 8) (v := .int (o_L.2.2.2.1 + 1)) (ty := .int) (C := RX8) (T := TX8) (N := 48) hx hb hts layX8 tyX8 tyX8_ok nmX8 hown hK hP hD hS 0 rfl rfl 9 (by decide) (hts _ (inA q987)) (fun _ h9 => h9) rfl (by decide +kernel) rfl rfl (Nat.le_of_ble_eq_true rfl) dX8_unit_49 (fun H locs hP hD hS => ?_)
      have hP : va_P D vwCl (wM0 ad o_X (o_L.1, o_L.2.1, o_L.2.2.1, o_L.2.2.2.1 + 1, o_L.2.2.2.2) o_N o_T o_U o_O o_E o_Q o_V o_I ++ wMX cI ad o_X) H := hP
      have hD : va_D A (wM0 ad o_X (o_L.1, o_L.2.1, o_L.2.2.1, o_L.2.2.2.1 + 1, o_L.2.2.2.2) o_N o_T o_U o_O o_E o_Q o_V o_I ++ wMX cI ad o_X) := hD
      refine lv_iload_n hx hb dX8_unit_52 rfl (lv_at hl 1 rfl) ?_
      refine lv_bipush (v := 77) hx hb dX8_unit_53 (by decide) ?_
      refine lv_icmp_ne (tgt := 68) hx hb dX8_unit_55 (by decide) (fun c15 => ?_) (fun c15 => ?_)
      · replace hM := if_f c15 hM
        refine lv_iload_n hx hb dX8_unit_68 rfl (lv_at hl 1 rfl) ?_
        refine lv_bipush (v := 83) hx hb dX8_unit_69 (by decide) ?_
        refine lv_icmp_ne (tgt := 80) hx hb dX8_unit_71 (by decide) (fun c16 => ?_) (fun c16 => ?_)
        · replace hM := if_f c16 hM
          refine lv_iload_n hx hb dX8_unit_80 rfl (lv_at hl 1 rfl) ?_
          refine lv_bipush (v := 77) hx hb dX8_unit_81 (by decide) ?_
          refine lv_icmp_ne (tgt := 92) hx hb dX8_unit_83 (by decide) (fun c17 => ?_) (fun c17 => ?_)
          · replace hM := if_f c17 hM
            refine lv_iload_n hx hb dX8_unit_92 rfl (lv_at hl 1 rfl) ?_
            refine lv_bipush (v := 72) hx hb dX8_unit_93 (by decide) ?_
            refine lv_icmp_ne (tgt := 104) hx hb dX8_unit_95 (by decide) (fun c18 => ?_) (fun c18 => ?_)
            · replace hM := if_f c18 hM
              refine lv_lconst (v := 0) hx hb dX8_unit_104 (by decide) ?_
              cases hM
              exact rt_l hx hb hr hlk hP hD hS rfl dX8_unit_105
            · replace hM := if_t c18 hM
              refine lv_ldc2 (v := 3600000) hx hb hown (hts _ (inA q1192)) dX8_unit_98 ?_
              refine lv_goto (tgt := 105) hx hb dX8_unit_101 (by decide) ?_
              cases hM
              exact rt_l hx hb hr hlk hP hD hS rfl dX8_unit_105
          · replace hM := if_t c17 hM
            refine lv_ldc2 (v := 60000) hx hb hown (hts _ (inA q1191)) dX8_unit_86 ?_
            refine lv_goto (tgt := 105) hx hb dX8_unit_89 (by decide) ?_
            cases hM
            exact rt_l hx hb hr hlk hP hD hS rfl dX8_unit_105
        · replace hM := if_t c16 hM
          refine lv_ldc2 (v := 1000) hx hb hown (hts _ (inA q1190)) dX8_unit_74 ?_
          refine lv_goto (tgt := 105) hx hb dX8_unit_77 (by decide) ?_
          cases hM
          exact rt_l hx hb hr hlk hP hD hS rfl dX8_unit_105
      · replace hM := if_t c15 hM
        refine lv_iload_n hx hb dX8_unit_58 rfl (lv_at hl 0 rfl) ?_
        refine lv_bipush (v := 83) hx hb dX8_unit_59 (by decide) ?_
        refine lv_icmp_ne (tgt := 68) hx hb dX8_unit_61 (by decide) (fun c19 => ?_) (fun c19 => ?_)
        · replace hM := if_f c19 hM
          refine lv_iload_n hx hb dX8_unit_68 rfl (lv_at hl 1 rfl) ?_
          refine lv_bipush (v := 83) hx hb dX8_unit_69 (by decide) ?_
          refine lv_icmp_ne (tgt := 80) hx hb dX8_unit_71 (by decide) (fun c20 => ?_) (fun c20 => ?_)
          · replace hM := if_f c20 hM
            refine lv_iload_n hx hb dX8_unit_80 rfl (lv_at hl 1 rfl) ?_
            refine lv_bipush (v := 77) hx hb dX8_unit_81 (by decide) ?_
            refine lv_icmp_ne (tgt := 92) hx hb dX8_unit_83 (by decide) (fun c21 => ?_) (fun c21 => ?_)
            · replace hM := if_f c21 hM
              refine lv_iload_n hx hb dX8_unit_92 rfl (lv_at hl 1 rfl) ?_
              refine lv_bipush (v := 72) hx hb dX8_unit_93 (by decide) ?_
              refine lv_icmp_ne (tgt := 104) hx hb dX8_unit_95 (by decide) (fun c22 => ?_) (fun c22 => ?_)
              · replace hM := if_f c22 hM
                refine lv_lconst (v := 0) hx hb dX8_unit_104 (by decide) ?_
                cases hM
                exact rt_l hx hb hr hlk hP hD hS rfl dX8_unit_105
              · replace hM := if_t c22 hM
                refine lv_ldc2 (v := 3600000) hx hb hown (hts _ (inA q1192)) dX8_unit_98 ?_
                refine lv_goto (tgt := 105) hx hb dX8_unit_101 (by decide) ?_
                cases hM
                exact rt_l hx hb hr hlk hP hD hS rfl dX8_unit_105
            · replace hM := if_t c21 hM
              refine lv_ldc2 (v := 60000) hx hb hown (hts _ (inA q1191)) dX8_unit_86 ?_
              refine lv_goto (tgt := 105) hx hb dX8_unit_89 (by decide) ?_
              cases hM
              exact rt_l hx hb hr hlk hP hD hS rfl dX8_unit_105
          · replace hM := if_t c20 hM
            refine lv_ldc2 (v := 1000) hx hb hown (hts _ (inA q1190)) dX8_unit_74 ?_
            refine lv_goto (tgt := 105) hx hb dX8_unit_77 (by decide) ?_
            cases hM
            exact rt_l hx hb hr hlk hP hD hS rfl dX8_unit_105
        · replace hM := if_t c19 hM
          refine lv_lconst (v := 1) hx hb dX8_unit_64 (by decide) ?_
          refine lv_goto (tgt := 105) hx hb dX8_unit_65 (by decide) ?_
          cases hM
          exact rt_l hx hb hr hlk hP hD hS rfl dX8_unit_105
    · replace hM := if_t c14 hM
      refine lv_iconst (v := 2) hx hb dX8_unit_43 (by decide) ?_
      refine lv_goto (tgt := 48) hx hb dX8_unit_44 (by decide) ?_
      refine lv_iadd hx hb dX8_unit_48 ?_
      refine va_put (D := D) (ci := 8) (v := .int (o_L.2.2.2.1 + 2)) (ty := .int) (C := RX8) (T := TX8) (N := 48) hx hb hts layX8 tyX8 tyX8_ok nmX8 hown hK hP hD hS 0 rfl rfl 9 (by decide) (hts _ (inA q987)) (fun _ h9 => h9) rfl (by decide +kernel) rfl rfl (Nat.le_of_ble_eq_true rfl) dX8_unit_49 (fun H locs hP hD hS => ?_)
      have hP : va_P D vwCl (wM0 ad o_X (o_L.1, o_L.2.1, o_L.2.2.1, o_L.2.2.2.1 + 2, o_L.2.2.2.2) o_N o_T o_U o_O o_E o_Q o_V o_I ++ wMX cI ad o_X) H := hP
      have hD : va_D A (wM0 ad o_X (o_L.1, o_L.2.1, o_L.2.2.1, o_L.2.2.2.1 + 2, o_L.2.2.2.2) o_N o_T o_U o_O o_E o_Q o_V o_I ++ wMX cI ad o_X) := hD
      refine lv_iload_n hx hb dX8_unit_52 rfl (lv_at hl 1 rfl) ?_
      refine lv_bipush (v := 77) hx hb dX8_unit_53 (by decide) ?_
      refine lv_icmp_ne (tgt := 68) hx hb dX8_unit_55 (by decide) (fun c23 => ?_) (fun c23 => ?_)
      · replace hM := if_f c23 hM
        refine lv_iload_n hx hb dX8_unit_68 rfl (lv_at hl 1 rfl) ?_
        refine lv_bipush (v := 83) hx hb dX8_unit_69 (by decide) ?_
        refine lv_icmp_ne (tgt := 80) hx hb dX8_unit_71 (by decide) (fun c24 => ?_) (fun c24 => ?_)
        · replace hM := if_f c24 hM
          refine lv_iload_n hx hb dX8_unit_80 rfl (lv_at hl 1 rfl) ?_
          refine lv_bipush (v := 77) hx hb dX8_unit_81 (by decide) ?_
          refine lv_icmp_ne (tgt := 92) hx hb dX8_unit_83 (by decide) (fun c25 => ?_) (fun c25 => ?_)
          · replace hM := if_f c25 hM
            refine lv_iload_n hx hb dX8_unit_92 rfl (lv_at hl 1 rfl) ?_
            refine lv_bipush (v := 72) hx hb dX8_unit_93 (by decide) ?_
            refine lv_icmp_ne (tgt := 104) hx hb dX8_unit_95 (by decide) (fun c26 => ?_) (fun c26 => ?_)
            · replace hM := if_f c26 hM
              refine lv_lconst (v := 0) hx hb dX8_unit_104 (by decide) ?_
              cases hM
              exact rt_l hx hb hr hlk hP hD hS rfl dX8_unit_105
            · replace hM := if_t c26 hM
              refine lv_ldc2 (v := 3600000) hx hb hown (hts _ (inA q1192)) dX8_unit_98 ?_
              refine lv_goto (tgt := 105) hx hb dX8_unit_101 (by decide) ?_
              cases hM
              exact rt_l hx hb hr hlk hP hD hS rfl dX8_unit_105
          · replace hM := if_t c25 hM
            refine lv_ldc2 (v := 60000) hx hb hown (hts _ (inA q1191)) dX8_unit_86 ?_
            refine lv_goto (tgt := 105) hx hb dX8_unit_89 (by decide) ?_
            cases hM
            exact rt_l hx hb hr hlk hP hD hS rfl dX8_unit_105
        · replace hM := if_t c24 hM
          refine lv_ldc2 (v := 1000) hx hb hown (hts _ (inA q1190)) dX8_unit_74 ?_
          refine lv_goto (tgt := 105) hx hb dX8_unit_77 (by decide) ?_
          cases hM
          exact rt_l hx hb hr hlk hP hD hS rfl dX8_unit_105
      · replace hM := if_t c23 hM
        refine lv_iload_n hx hb dX8_unit_58 rfl (lv_at hl 0 rfl) ?_
        refine lv_bipush (v := 83) hx hb dX8_unit_59 (by decide) ?_
        refine lv_icmp_ne (tgt := 68) hx hb dX8_unit_61 (by decide) (fun c27 => ?_) (fun c27 => ?_)
        · replace hM := if_f c27 hM
          refine lv_iload_n hx hb dX8_unit_68 rfl (lv_at hl 1 rfl) ?_
          refine lv_bipush (v := 83) hx hb dX8_unit_69 (by decide) ?_
          refine lv_icmp_ne (tgt := 80) hx hb dX8_unit_71 (by decide) (fun c28 => ?_) (fun c28 => ?_)
          · replace hM := if_f c28 hM
            refine lv_iload_n hx hb dX8_unit_80 rfl (lv_at hl 1 rfl) ?_
            refine lv_bipush (v := 77) hx hb dX8_unit_81 (by decide) ?_
            refine lv_icmp_ne (tgt := 92) hx hb dX8_unit_83 (by decide) (fun c29 => ?_) (fun c29 => ?_)
            · replace hM := if_f c29 hM
              refine lv_iload_n hx hb dX8_unit_92 rfl (lv_at hl 1 rfl) ?_
              refine lv_bipush (v := 72) hx hb dX8_unit_93 (by decide) ?_
              refine lv_icmp_ne (tgt := 104) hx hb dX8_unit_95 (by decide) (fun c30 => ?_) (fun c30 => ?_)
              · replace hM := if_f c30 hM
                refine lv_lconst (v := 0) hx hb dX8_unit_104 (by decide) ?_
                cases hM
                exact rt_l hx hb hr hlk hP hD hS rfl dX8_unit_105
              · replace hM := if_t c30 hM
                refine lv_ldc2 (v := 3600000) hx hb hown (hts _ (inA q1192)) dX8_unit_98 ?_
                refine lv_goto (tgt := 105) hx hb dX8_unit_101 (by decide) ?_
                cases hM
                exact rt_l hx hb hr hlk hP hD hS rfl dX8_unit_105
            · replace hM := if_t c29 hM
              refine lv_ldc2 (v := 60000) hx hb hown (hts _ (inA q1191)) dX8_unit_86 ?_
              refine lv_goto (tgt := 105) hx hb dX8_unit_89 (by decide) ?_
              cases hM
              exact rt_l hx hb hr hlk hP hD hS rfl dX8_unit_105
          · replace hM := if_t c28 hM
            refine lv_ldc2 (v := 1000) hx hb hown (hts _ (inA q1190)) dX8_unit_74 ?_
            refine lv_goto (tgt := 105) hx hb dX8_unit_77 (by decide) ?_
            cases hM
            exact rt_l hx hb hr hlk hP hD hS rfl dX8_unit_105
        · replace hM := if_t c27 hM
          refine lv_lconst (v := 1) hx hb dX8_unit_64 (by decide) ?_
          refine lv_goto (tgt := 105) hx hb dX8_unit_65 (by decide) ?_
          cases hM
          exact rt_l hx hb hr hlk hP hD hS rfl dX8_unit_105

set_option maxHeartbeats 4000000 in
set_option maxRecDepth 100000 in
theorem c_Model_readNumber (l : Launch) (D : va_G) (cI : ClassId) (sd : Nat → Nat) (ad : Nat → Nat) (o_C : S_MC) (o_N : S_MN) (o_T : S_MT) (o_U : S_MU) (o_O : S_MO) (o_E : S_ME) (o_Q : S_MQ) (o_V : S_MV) (o_I : S_MI) (o_X : S_MX) (o_L : S_ML) (a1 : Int32) (res : S_ML) (hM : f_Model_readNumber o_X o_L a1 = some res) : Ctr l D cI sd yX8_readNumber (wsM yX8_readNumber cX8_readNumber 7 (Option.none : Option Jvm.ClassFile.FieldType)) { frames := 3, cells := 0, slots := 0, locals := 65 } [.ref (ad 100), .int a1] (wM0 ad o_X o_L o_N o_T o_U o_O o_E o_Q o_V o_I ++ wMX cI ad o_X) (wM0 ad o_X res o_N o_T o_U o_O o_E o_Q o_V o_I ++ wMX cI ad o_X) none := by
  refine Ctr.of (cc := cX8_readNumber) (maxL := 7) (own := RX8) (by decide +kernel) rfl rfl (Nat.le_of_ble_eq_true rfl) ?_
  intro p e s m below meth c A ls hx hb hr hml hown hts hlk hK hE hA hP hD hS hl
  have hl : lv_has ls 7 [(0, .ref (ad 100)), (1, .int a1)] := hl
  unfold f_Model_readNumber at hM
  refine lv_aload_n hx hb dX8_readNumber_0 rfl (lv_at hl 0 rfl) ?_
  refine lv_iload_n hx hb dX8_readNumber_1 rfl (lv_at hl 1 rfl) ?_
  refine lv_if_eq (tgt := 14) hx hb dX8_readNumber_2 (by decide) (fun c1 => ?_) (fun c1 => ?_)
  · replace hM := if_t c1 hM
    refine lv_aload_n hx hb dX8_readNumber_14 rfl (lv_at hl 0 rfl) ?_
    refine va_get (D := D) (ci := 8) (v := .int o_L.1) (C := RX8) (T := TX8) (N := 48) hx hb hts layX8 hown hK hP 0 rfl rfl 6 (by decide) (hts _ (inA q984)) (fun _ h9 => h9) rfl dX8_readNumber_15 ?_
    refine va_put (D := D) (ci := 8) (v := .int o_L.1) (ty := .int) (C := RX8) (T := TX8) (N := 48) hx hb hts layX8 tyX8 tyX8_ok nmX8 hown hK hP hD hS 0 rfl rfl 9 (by decide) (hts _ (inA q987)) (fun _ h9 => h9) rfl (by decide +kernel) rfl rfl (Nat.le_of_ble_eq_true rfl) dX8_readNumber_18 (fun H locs hP hD hS => ?_)
    have hP : va_P D vwCl (wM0 ad o_X (o_L.1, o_L.2.1, o_L.2.2.1, o_L.1, o_L.2.2.2.2) o_N o_T o_U o_O o_E o_Q o_V o_I ++ wMX cI ad o_X) H := hP
    have hD : va_D A (wM0 ad o_X (o_L.1, o_L.2.1, o_L.2.2.1, o_L.1, o_L.2.2.2.2) o_N o_T o_U o_O o_E o_Q o_V o_I ++ wMX cI ad o_X) := hD
    refine lv_aload_n hx hb dX8_readNumber_21 rfl (lv_at hl 0 rfl) ?_
    refine lv_bipush (v := 10) hx hb dX8_readNumber_22 (by decide) ?_
    obtain ⟨r2, hcr2, hM⟩ := ob_use hM
    refine cl_V (As := [.int 10]) (rest := []) (wM0 ad o_X r2.2 o_N o_T o_U o_O o_E o_Q o_V o_I ++ wMX cI ad o_X) (.long r2.1 :: []) ⟨hx, hb, hml, hown, hts⟩ (c_Model_digits l D cI sd ad o_C o_N o_T o_U o_O o_E o_Q o_V o_I o_X (o_L.1, o_L.2.1, o_L.2.2.1, o_L.1, o_L.2.2.2.2) 10 r2 hcr2) (cwV2 hts q1171 mvX8_digits rfl rfl ⟨(Nat.le_of_ble_eq_true rfl), (Nat.le_of_ble_eq_true rfl)⟩) hK hE hA hP hD hS 0 (T := TX8) (N := 48) (ci := 8) rfl rfl [0, 1] rfl (by decide) rfl rfl rfl rfl rfl rfl hl.1 (Nat.le_of_ble_eq_true rfl) dX8_readNumber_24 ⟨Nat.zero_le _, Nat.zero_le _⟩ (fun H locs hP hD hS => ?_)
    refine lv_lstore_n (lv' := [(2, .long r2.1), (0, .ref (ad 100)), (1, .int a1)]) hx hb dX8_readNumber_27 rfl hl (by decide) rfl (fun ls hl => ?_)
    refine lv_lload_n hx hb dX8_readNumber_28 rfl (lv_at hl 0 rfl) ?_
    refine lv_lconst (v := 0) hx hb dX8_readNumber_29 (by decide) ?_
    refine W.lcmp hx hb dX8_readNumber_30 ?_
    refine lv_if_lt (tgt := 38) hx hb dX8_readNumber_31 (by decide) (fun c3 => ?_) (fun c3 => ?_)
    · replace hM := if_t c3 hM
      refine lv_iconst (v := 0) hx hb dX8_readNumber_38 (by decide) ?_
      refine lv_istore (lv' := [(4, .int 0), (2, .long r2.1), (0, .ref (ad 100)), (1, .int a1)]) hx hb dX8_readNumber_39 hl (by decide) rfl (fun ls hl => ?_)
      refine lv_iload_n hx hb dX8_readNumber_41 rfl (lv_at hl 3 rfl) ?_
      refine lv_if_eq (tgt := 78) hx hb dX8_readNumber_42 (by decide) (fun c4 => ?_) (fun c4 => ?_)
      · replace hM := if_t c4 hM
        refine lv_iload hx hb dX8_readNumber_78 (lv_at hl 0 rfl) ?_
        refine lv_if_eq (tgt := 163) hx hb dX8_readNumber_80 (by decide) (fun c5 => ?_) (fun c5 => False.elim (by revert c5; decide))
        refine lv_iload hx hb dX8_readNumber_163 (lv_at hl 0 rfl) ?_
        refine lv_if_eq (tgt := 187) hx hb dX8_readNumber_165 (by decide) (fun c6 => ?_) (fun c6 => False.elim (by revert c6; decide))
        refine lv_aload_n hx hb dX8_readNumber_187 rfl (lv_at hl 2 rfl) ?_
        refine lv_iconst (v := 4) hx hb dX8_readNumber_188 (by decide) ?_
        refine lv_aload_n hx hb dX8_readNumber_189 rfl (lv_at hl 2 rfl) ?_
        refine va_get (D := D) (ci := 8) (v := .int r2.2.1) (C := RX8) (T := TX8) (N := 48) hx hb hts layX8 hown hK hP 0 rfl rfl 6 (by decide) (hts _ (inA q984)) (fun _ h9 => h9) rfl dX8_readNumber_190 ?_
        obtain ⟨r7, hcr7, hM⟩ := ob_use hM
        refine cl_V (As := [.int 4, .int r2.2.1]) (rest := []) (wM0 ad o_X r7 o_N o_T o_U o_O o_E o_Q o_V o_I ++ wMX cI ad o_X) [] ⟨hx, hb, hml, hown, hts⟩ (c_Model_fail l D cI sd ad o_C o_X o_N o_T o_U o_O o_E o_Q o_V o_I r2.2 4 r2.2.1 r7 hcr7) (cwV2 hts q1163 mvX8_fail rfl rfl ⟨(Nat.le_of_ble_eq_true rfl), (Nat.le_of_ble_eq_true rfl)⟩) hK hE hA hP hD hS 0 (T := TX8) (N := 48) (ci := 8) rfl rfl [0] rfl (by decide) rfl rfl rfl rfl rfl rfl hl.1 (Nat.le_of_ble_eq_true rfl) dX8_readNumber_193 ⟨Nat.zero_le _, Nat.zero_le _⟩ (fun H locs hP hD hS => ?_)
        cases hM
        exact rt_v hx hb hr hlk hP hD hS rfl dX8_readNumber_196
      · replace hM := if_f c4 hM
        refine lv_iload hx hb dX8_readNumber_45 (lv_at hl 0 rfl) ?_
        refine lv_if_eq (tgt := 78) hx hb dX8_readNumber_47 (by decide) (fun c8 => ?_) (fun c8 => False.elim (by revert c8; decide))
        refine lv_iload hx hb dX8_readNumber_78 (lv_at hl 0 rfl) ?_
        refine lv_if_eq (tgt := 163) hx hb dX8_readNumber_80 (by decide) (fun c9 => ?_) (fun c9 => False.elim (by revert c9; decide))
        refine lv_iload hx hb dX8_readNumber_163 (lv_at hl 0 rfl) ?_
        refine lv_if_eq (tgt := 187) hx hb dX8_readNumber_165 (by decide) (fun c10 => ?_) (fun c10 => False.elim (by revert c10; decide))
        refine lv_aload_n hx hb dX8_readNumber_187 rfl (lv_at hl 2 rfl) ?_
        refine lv_iconst (v := 4) hx hb dX8_readNumber_188 (by decide) ?_
        refine lv_aload_n hx hb dX8_readNumber_189 rfl (lv_at hl 2 rfl) ?_
        refine va_get (D := D) (ci := 8) (v := .int r2.2.1) (C := RX8) (T := TX8) (N := 48) hx hb hts layX8 hown hK hP 0 rfl rfl 6 (by decide) (hts _ (inA q984)) (fun _ h9 => h9) rfl dX8_readNumber_190 ?_
        obtain ⟨r11, hcr11, hM⟩ := ob_use hM
        refine cl_V (As := [.int 4, .int r2.2.1]) (rest := []) (wM0 ad o_X r11 o_N o_T o_U o_O o_E o_Q o_V o_I ++ wMX cI ad o_X) [] ⟨hx, hb, hml, hown, hts⟩ (c_Model_fail l D cI sd ad o_C o_X o_N o_T o_U o_O o_E o_Q o_V o_I r2.2 4 r2.2.1 r11 hcr11) (cwV2 hts q1163 mvX8_fail rfl rfl ⟨(Nat.le_of_ble_eq_true rfl), (Nat.le_of_ble_eq_true rfl)⟩) hK hE hA hP hD hS 0 (T := TX8) (N := 48) (ci := 8) rfl rfl [0] rfl (by decide) rfl rfl rfl rfl rfl rfl hl.1 (Nat.le_of_ble_eq_true rfl) dX8_readNumber_193 ⟨Nat.zero_le _, Nat.zero_le _⟩ (fun H locs hP hD hS => ?_)
        cases hM
        exact rt_v hx hb hr hlk hP hD hS rfl dX8_readNumber_196
    · replace hM := if_f c3 hM
      refine lv_iconst (v := 1) hx hb dX8_readNumber_34 (by decide) ?_
      refine lv_goto (tgt := 39) hx hb dX8_readNumber_35 (by decide) ?_
      refine lv_istore (lv' := [(4, .int 1), (2, .long r2.1), (0, .ref (ad 100)), (1, .int a1)]) hx hb dX8_readNumber_39 hl (by decide) rfl (fun ls hl => ?_)
      refine lv_iload_n hx hb dX8_readNumber_41 rfl (lv_at hl 3 rfl) ?_
      refine lv_if_eq (tgt := 78) hx hb dX8_readNumber_42 (by decide) (fun c12 => ?_) (fun c12 => ?_)
      · replace hM := if_t c12 hM
        refine lv_iload hx hb dX8_readNumber_78 (lv_at hl 0 rfl) ?_
        refine lv_if_eq (tgt := 163) hx hb dX8_readNumber_80 (by decide) (fun c13 => False.elim (by revert c13; decide)) (fun c13 => ?_)
        refine lv_aload_n hx hb dX8_readNumber_83 rfl (lv_at hl 2 rfl) ?_
        refine lv_aload_n hx hb dX8_readNumber_84 rfl (lv_at hl 2 rfl) ?_
        refine va_get (D := D) (ci := 8) (v := .int r2.2.2.2.2.1) (C := RX8) (T := TX8) (N := 48) hx hb hts layX8 hown hK hP 0 rfl rfl 9 (by decide) (hts _ (inA q987)) (fun _ h9 => h9) rfl dX8_readNumber_85 ?_
        obtain ⟨r14, hcr14, hM⟩ := ob_use hM
        refine cl_V (As := [.int r2.2.2.2.2.1]) (rest := []) (wM0 ad o_X r2.2 o_N o_T o_U o_O o_E o_Q o_V o_I ++ wMX cI ad o_X) (.int r14 :: []) ⟨hx, hb, hml, hown, hts⟩ (c_Model_at l D cI sd ad o_C r2.2 o_N o_T o_U o_O o_E o_Q o_V o_I o_X r2.2.2.2.2.1 r14 hcr14) (cwV2 hts q1159 mvX8_at rfl rfl ⟨(Nat.le_of_ble_eq_true rfl), (Nat.le_of_ble_eq_true rfl)⟩) hK hE hA hP hD hS 0 (T := TX8) (N := 48) (ci := 8) rfl rfl [0, 1] rfl (by decide) rfl rfl rfl rfl rfl rfl hl.1 (Nat.le_of_ble_eq_true rfl) dX8_readNumber_88 ⟨Nat.zero_le _, Nat.zero_le _⟩ (fun H locs hP hD hS => ?_)
        refine lv_bipush (v := 35) hx hb dX8_readNumber_91 (by decide) ?_
        refine lv_icmp_ne (tgt := 163) hx hb dX8_readNumber_93 (by decide) (fun c15 => ?_) (fun c15 => ?_)
        · replace hM := if_f c15 hM
          refine lv_iload hx hb dX8_readNumber_163 (lv_at hl 0 rfl) ?_
          refine lv_if_eq (tgt := 187) hx hb dX8_readNumber_165 (by decide) (fun c16 => False.elim (by revert c16; decide)) (fun c16 => ?_)
          refine lv_aload_n hx hb dX8_readNumber_168 rfl (lv_at hl 2 rfl) ?_
          refine lv_aload_n hx hb dX8_readNumber_169 rfl (lv_at hl 2 rfl) ?_
          refine va_get (D := D) (ci := 8) (v := .int r2.2.2.2.2.1) (C := RX8) (T := TX8) (N := 48) hx hb hts layX8 hown hK hP 0 rfl rfl 9 (by decide) (hts _ (inA q987)) (fun _ h9 => h9) rfl dX8_readNumber_170 ?_
          obtain ⟨r17, hcr17, hM⟩ := ob_use hM
          refine cl_V (As := [.int r2.2.2.2.2.1]) (rest := []) (wM0 ad o_X r2.2 o_N o_T o_U o_O o_E o_Q o_V o_I ++ wMX cI ad o_X) (.int r17 :: []) ⟨hx, hb, hml, hown, hts⟩ (c_Model_goesOn l D cI sd ad o_C r2.2 o_N o_T o_U o_O o_E o_Q o_V o_I o_X r2.2.2.2.2.1 r17 hcr17) (cwV2 hts q1195 mvX8_goesOn rfl rfl ⟨(Nat.le_of_ble_eq_true rfl), (Nat.le_of_ble_eq_true rfl)⟩) hK hE hA hP hD hS 0 (T := TX8) (N := 48) (ci := 8) rfl rfl [0, 1] rfl (by decide) rfl rfl rfl rfl rfl rfl hl.1 (Nat.le_of_ble_eq_true rfl) dX8_readNumber_173 ⟨Nat.zero_le _, Nat.zero_le _⟩ (fun H locs hP hD hS => ?_)
          refine lv_if_ne (tgt := 187) hx hb dX8_readNumber_176 (by decide) (fun c18 => ?_) (fun c18 => ?_)
          · replace hM := if_f c18 hM
            refine lv_aload_n hx hb dX8_readNumber_187 rfl (lv_at hl 2 rfl) ?_
            refine lv_iconst (v := 4) hx hb dX8_readNumber_188 (by decide) ?_
            refine lv_aload_n hx hb dX8_readNumber_189 rfl (lv_at hl 2 rfl) ?_
            refine va_get (D := D) (ci := 8) (v := .int r2.2.1) (C := RX8) (T := TX8) (N := 48) hx hb hts layX8 hown hK hP 0 rfl rfl 6 (by decide) (hts _ (inA q984)) (fun _ h9 => h9) rfl dX8_readNumber_190 ?_
            obtain ⟨r19, hcr19, hM⟩ := ob_use hM
            refine cl_V (As := [.int 4, .int r2.2.1]) (rest := []) (wM0 ad o_X r19 o_N o_T o_U o_O o_E o_Q o_V o_I ++ wMX cI ad o_X) [] ⟨hx, hb, hml, hown, hts⟩ (c_Model_fail l D cI sd ad o_C o_X o_N o_T o_U o_O o_E o_Q o_V o_I r2.2 4 r2.2.1 r19 hcr19) (cwV2 hts q1163 mvX8_fail rfl rfl ⟨(Nat.le_of_ble_eq_true rfl), (Nat.le_of_ble_eq_true rfl)⟩) hK hE hA hP hD hS 0 (T := TX8) (N := 48) (ci := 8) rfl rfl [0] rfl (by decide) rfl rfl rfl rfl rfl rfl hl.1 (Nat.le_of_ble_eq_true rfl) dX8_readNumber_193 ⟨Nat.zero_le _, Nat.zero_le _⟩ (fun H locs hP hD hS => ?_)
            cases hM
            exact rt_v hx hb hr hlk hP hD hS rfl dX8_readNumber_196
          · replace hM := if_t c18 hM
            refine lv_lload_n hx hb dX8_readNumber_179 rfl (lv_at hl 1 rfl) ?_
            refine lv_ldc2 (v := 2147483647) hx hb hown (hts _ (inA q1202)) dX8_readNumber_180 ?_
            refine W.lcmp hx hb dX8_readNumber_183 ?_
            refine lv_if_le (tgt := 197) hx hb dX8_readNumber_184 (by decide) (fun c20 => ?_) (fun c20 => ?_)
            · replace hM := if_t c20 hM
              refine lv_aload_n hx hb dX8_readNumber_197 rfl (lv_at hl 2 rfl) ?_
              refine lv_bipush (v := 81) hx hb dX8_readNumber_198 (by decide) ?_
              refine va_put (D := D) (ci := 8) (v := .int 81) (ty := .int) (C := RX8) (T := TX8) (N := 48) hx hb hts layX8 tyX8 tyX8_ok nmX8 hown hK hP hD hS 0 rfl rfl 7 (by decide) (hts _ (inA q985)) (fun _ h9 => h9) rfl (by decide +kernel) rfl rfl (Nat.le_of_ble_eq_true rfl) dX8_readNumber_200 (fun H locs hP hD hS => ?_)
              have hP : va_P D vwCl (wM0 ad o_X (r2.2.1, 81, r2.2.2.2) o_N o_T o_U o_O o_E o_Q o_V o_I ++ wMX cI ad o_X) H := hP
              have hD : va_D A (wM0 ad o_X (r2.2.1, 81, r2.2.2.2) o_N o_T o_U o_O o_E o_Q o_V o_I ++ wMX cI ad o_X) := hD
              refine lv_aload_n hx hb dX8_readNumber_203 rfl (lv_at hl 2 rfl) ?_
              refine lv_lload_n hx hb dX8_readNumber_204 rfl (lv_at hl 1 rfl) ?_
              refine lv_l2i hx hb dX8_readNumber_205 rfl ?_
              refine va_put (D := D) (ci := 8) (v := .int r2.1.toInt32) (ty := .int) (C := RX8) (T := TX8) (N := 48) hx hb hts layX8 tyX8 tyX8_ok nmX8 hown hK hP hD hS 0 rfl rfl 8 (by decide) (hts _ (inA q986)) (fun _ h9 => h9) rfl (by decide +kernel) rfl rfl (Nat.le_of_ble_eq_true rfl) dX8_readNumber_206 (fun H locs hP hD hS => ?_)
              have hP : va_P D vwCl (wM0 ad o_X (r2.2.1, 81, r2.1.toInt32, r2.2.2.2.2) o_N o_T o_U o_O o_E o_Q o_V o_I ++ wMX cI ad o_X) H := hP
              have hD : va_D A (wM0 ad o_X (r2.2.1, 81, r2.1.toInt32, r2.2.2.2.2) o_N o_T o_U o_O o_E o_Q o_V o_I ++ wMX cI ad o_X) := hD
              cases hM
              exact rt_v hx hb hr hlk hP hD hS rfl dX8_readNumber_209
            · replace hM := if_f c20 hM
              refine lv_aload_n hx hb dX8_readNumber_187 rfl (lv_at hl 2 rfl) ?_
              refine lv_iconst (v := 4) hx hb dX8_readNumber_188 (by decide) ?_
              refine lv_aload_n hx hb dX8_readNumber_189 rfl (lv_at hl 2 rfl) ?_
              refine va_get (D := D) (ci := 8) (v := .int r2.2.1) (C := RX8) (T := TX8) (N := 48) hx hb hts layX8 hown hK hP 0 rfl rfl 6 (by decide) (hts _ (inA q984)) (fun _ h9 => h9) rfl dX8_readNumber_190 ?_
              obtain ⟨r21, hcr21, hM⟩ := ob_use hM
              refine cl_V (As := [.int 4, .int r2.2.1]) (rest := []) (wM0 ad o_X r21 o_N o_T o_U o_O o_E o_Q o_V o_I ++ wMX cI ad o_X) [] ⟨hx, hb, hml, hown, hts⟩ (c_Model_fail l D cI sd ad o_C o_X o_N o_T o_U o_O o_E o_Q o_V o_I r2.2 4 r2.2.1 r21 hcr21) (cwV2 hts q1163 mvX8_fail rfl rfl ⟨(Nat.le_of_ble_eq_true rfl), (Nat.le_of_ble_eq_true rfl)⟩) hK hE hA hP hD hS 0 (T := TX8) (N := 48) (ci := 8) rfl rfl [0] rfl (by decide) rfl rfl rfl rfl rfl rfl hl.1 (Nat.le_of_ble_eq_true rfl) dX8_readNumber_193 ⟨Nat.zero_le _, Nat.zero_le _⟩ (fun H locs hP hD hS => ?_)
              cases hM
              exact rt_v hx hb hr hlk hP hD hS rfl dX8_readNumber_196
        · replace hM := if_t c15 hM
          refine lv_aload_n hx hb dX8_readNumber_96 rfl (lv_at hl 2 rfl) ?_
          refine lv_dup hx hb dX8_readNumber_97 rfl ?_
          refine va_get (D := D) (ci := 8) (v := .int r2.2.2.2.2.1) (C := RX8) (T := TX8) (N := 48) hx hb hts layX8 hown hK hP 0 rfl rfl 9 (by decide) (hts _ (inA q987)) (fun _ h9 => h9) rfl dX8_readNumber_98 ?_
          refine lv_iconst (v := 1) hx hb dX8_readNumber_101 (by decide) ?_
          refine lv_iadd hx hb dX8_readNumber_102 ?_
          refine va_put (D := D) (ci := 8) (v := .int (r2.2.2.2.2.1 + 1)) (ty := .int) (C := RX8) (T := TX8) (N := 48) hx hb hts layX8 tyX8 tyX8_ok nmX8 hown hK hP hD hS 0 rfl rfl 9 (by decide) (hts _ (inA q987)) (fun _ h9 => h9) rfl (by decide +kernel) rfl rfl (Nat.le_of_ble_eq_true rfl) dX8_readNumber_103 (fun H locs hP hD hS => ?_)
          have hP : va_P D vwCl (wM0 ad o_X (r2.2.1, r2.2.2.1, r2.2.2.2.1, r2.2.2.2.2.1 + 1, r2.2.2.2.2.2) o_N o_T o_U o_O o_E o_Q o_V o_I ++ wMX cI ad o_X) H := hP
          have hD : va_D A (wM0 ad o_X (r2.2.1, r2.2.2.1, r2.2.2.2.1, r2.2.2.2.2.1 + 1, r2.2.2.2.2.2) o_N o_T o_U o_O o_E o_Q o_V o_I ++ wMX cI ad o_X) := hD
          refine lv_lload_n hx hb dX8_readNumber_106 rfl (lv_at hl 1 rfl) ?_
          refine lv_ldc2 (v := 16) hx hb hown (hts _ (inA q1193)) dX8_readNumber_107 ?_
          refine W.lcmp hx hb dX8_readNumber_110 ?_
          refine lv_if_eq (tgt := 122) hx hb dX8_readNumber_111 (by decide) (fun c22 => ?_) (fun c22 => ?_)
          · replace hM := if_t c22 hM
            refine lv_iconst (v := 1) hx hb dX8_readNumber_122 (by decide) ?_
            refine lv_goto (tgt := 127) hx hb dX8_readNumber_123 (by decide) ?_
            refine lv_istore (lv' := [(4, .int 1), (2, .long r2.1), (0, .ref (ad 100)), (1, .int a1)]) hx hb dX8_readNumber_127 hl (by decide) rfl (fun ls hl => ?_)
            refine lv_iload hx hb dX8_readNumber_129 (lv_at hl 0 rfl) ?_
            refine lv_if_eq (tgt := 143) hx hb dX8_readNumber_131 (by decide) (fun c23 => False.elim (by revert c23; decide)) (fun c23 => ?_)
            refine lv_aload_n hx hb dX8_readNumber_134 rfl (lv_at hl 2 rfl) ?_
            refine lv_lload_n hx hb dX8_readNumber_135 rfl (lv_at hl 1 rfl) ?_
            refine lv_l2i hx hb dX8_readNumber_136 rfl ?_
            obtain ⟨r24, hcr24, hM⟩ := ob_use hM
            refine cl_V (As := [.int r2.1.toInt32]) (rest := []) (wM0 ad o_X r24.2 o_N o_T o_U o_O o_E o_Q o_V o_I ++ wMX cI ad o_X) (.long r24.1 :: []) ⟨hx, hb, hml, hown, hts⟩ (c_Model_digits l D cI sd ad o_C o_N o_T o_U o_O o_E o_Q o_V o_I o_X (r2.2.1, r2.2.2.1, r2.2.2.2.1, r2.2.2.2.2.1 + 1, r2.2.2.2.2.2) r2.1.toInt32 r24 hcr24) (cwV2 hts q1171 mvX8_digits rfl rfl ⟨(Nat.le_of_ble_eq_true rfl), (Nat.le_of_ble_eq_true rfl)⟩) hK hE hA hP hD hS 0 (T := TX8) (N := 48) (ci := 8) rfl rfl [0, 1] rfl (by decide) rfl rfl rfl rfl rfl rfl hl.1 (Nat.le_of_ble_eq_true rfl) dX8_readNumber_137 ⟨Nat.zero_le _, Nat.zero_le _⟩ (fun H locs hP hD hS => ?_)
            refine lv_goto (tgt := 144) hx hb dX8_readNumber_140 (by decide) ?_
            refine lv_lstore_n (lv' := [(2, .long r24.1), (4, .int 1), (0, .ref (ad 100)), (1, .int a1)]) hx hb dX8_readNumber_144 rfl hl (by decide) rfl (fun ls hl => ?_)
            refine lv_iload hx hb dX8_readNumber_145 (lv_at hl 1 rfl) ?_
            refine lv_if_eq (tgt := 160) hx hb dX8_readNumber_147 (by decide) (fun c25 => False.elim (by revert c25; decide)) (fun c25 => ?_)
            refine lv_lload_n hx hb dX8_readNumber_150 rfl (lv_at hl 0 rfl) ?_
            refine lv_lconst (v := 0) hx hb dX8_readNumber_151 (by decide) ?_
            refine W.lcmp hx hb dX8_readNumber_152 ?_
            refine lv_if_lt (tgt := 160) hx hb dX8_readNumber_153 (by decide) (fun c26 => ?_) (fun c26 => ?_)
            · replace hM := if_t c26 hM
              refine lv_iconst (v := 0) hx hb dX8_readNumber_160 (by decide) ?_
              refine lv_istore (lv' := [(4, .int 0), (2, .long r24.1), (0, .ref (ad 100)), (1, .int a1)]) hx hb dX8_readNumber_161 hl (by decide) rfl (fun ls hl => ?_)
              refine lv_iload hx hb dX8_readNumber_163 (lv_at hl 0 rfl) ?_
              refine lv_if_eq (tgt := 187) hx hb dX8_readNumber_165 (by decide) (fun c27 => ?_) (fun c27 => False.elim (by revert c27; decide))
              refine lv_aload_n hx hb dX8_readNumber_187 rfl (lv_at hl 2 rfl) ?_
              refine lv_iconst (v := 4) hx hb dX8_readNumber_188 (by decide) ?_
              refine lv_aload_n hx hb dX8_readNumber_189 rfl (lv_at hl 2 rfl) ?_
              refine va_get (D := D) (ci := 8) (v := .int r24.2.1) (C := RX8) (T := TX8) (N := 48) hx hb hts layX8 hown hK hP 0 rfl rfl 6 (by decide) (hts _ (inA q984)) (fun _ h9 => h9) rfl dX8_readNumber_190 ?_
              obtain ⟨r28, hcr28, hM⟩ := ob_use hM
              refine cl_V (As := [.int 4, .int r24.2.1]) (rest := []) (wM0 ad o_X r28 o_N o_T o_U o_O o_E o_Q o_V o_I ++ wMX cI ad o_X) [] ⟨hx, hb, hml, hown, hts⟩ (c_Model_fail l D cI sd ad o_C o_X o_N o_T o_U o_O o_E o_Q o_V o_I r24.2 4 r24.2.1 r28 hcr28) (cwV2 hts q1163 mvX8_fail rfl rfl ⟨(Nat.le_of_ble_eq_true rfl), (Nat.le_of_ble_eq_true rfl)⟩) hK hE hA hP hD hS 0 (T := TX8) (N := 48) (ci := 8) rfl rfl [0] rfl (by decide) rfl rfl rfl rfl rfl rfl hl.1 (Nat.le_of_ble_eq_true rfl) dX8_readNumber_193 ⟨Nat.zero_le _, Nat.zero_le _⟩ (fun H locs hP hD hS => ?_)
              cases hM
              exact rt_v hx hb hr hlk hP hD hS rfl dX8_readNumber_196
            · replace hM := if_f c26 hM
              refine lv_iconst (v := 1) hx hb dX8_readNumber_156 (by decide) ?_
              refine lv_goto (tgt := 161) hx hb dX8_readNumber_157 (by decide) ?_
              refine lv_istore (lv' := [(4, .int 1), (2, .long r24.1), (0, .ref (ad 100)), (1, .int a1)]) hx hb dX8_readNumber_161 hl (by decide) rfl (fun ls hl => ?_)
              refine lv_iload hx hb dX8_readNumber_163 (lv_at hl 0 rfl) ?_
              refine lv_if_eq (tgt := 187) hx hb dX8_readNumber_165 (by decide) (fun c29 => False.elim (by revert c29; decide)) (fun c29 => ?_)
              refine lv_aload_n hx hb dX8_readNumber_168 rfl (lv_at hl 2 rfl) ?_
              refine lv_aload_n hx hb dX8_readNumber_169 rfl (lv_at hl 2 rfl) ?_
              refine va_get (D := D) (ci := 8) (v := .int r24.2.2.2.2.1) (C := RX8) (T := TX8) (N := 48) hx hb hts layX8 hown hK hP 0 rfl rfl 9 (by decide) (hts _ (inA q987)) (fun _ h9 => h9) rfl dX8_readNumber_170 ?_
              obtain ⟨r30, hcr30, hM⟩ := ob_use hM
              refine cl_V (As := [.int r24.2.2.2.2.1]) (rest := []) (wM0 ad o_X r24.2 o_N o_T o_U o_O o_E o_Q o_V o_I ++ wMX cI ad o_X) (.int r30 :: []) ⟨hx, hb, hml, hown, hts⟩ (c_Model_goesOn l D cI sd ad o_C r24.2 o_N o_T o_U o_O o_E o_Q o_V o_I o_X r24.2.2.2.2.1 r30 hcr30) (cwV2 hts q1195 mvX8_goesOn rfl rfl ⟨(Nat.le_of_ble_eq_true rfl), (Nat.le_of_ble_eq_true rfl)⟩) hK hE hA hP hD hS 0 (T := TX8) (N := 48) (ci := 8) rfl rfl [0, 1] rfl (by decide) rfl rfl rfl rfl rfl rfl hl.1 (Nat.le_of_ble_eq_true rfl) dX8_readNumber_173 ⟨Nat.zero_le _, Nat.zero_le _⟩ (fun H locs hP hD hS => ?_)
              refine lv_if_ne (tgt := 187) hx hb dX8_readNumber_176 (by decide) (fun c31 => ?_) (fun c31 => ?_)
              · replace hM := if_f c31 hM
                refine lv_aload_n hx hb dX8_readNumber_187 rfl (lv_at hl 2 rfl) ?_
                refine lv_iconst (v := 4) hx hb dX8_readNumber_188 (by decide) ?_
                refine lv_aload_n hx hb dX8_readNumber_189 rfl (lv_at hl 2 rfl) ?_
                refine va_get (D := D) (ci := 8) (v := .int r24.2.1) (C := RX8) (T := TX8) (N := 48) hx hb hts layX8 hown hK hP 0 rfl rfl 6 (by decide) (hts _ (inA q984)) (fun _ h9 => h9) rfl dX8_readNumber_190 ?_
                obtain ⟨r32, hcr32, hM⟩ := ob_use hM
                refine cl_V (As := [.int 4, .int r24.2.1]) (rest := []) (wM0 ad o_X r32 o_N o_T o_U o_O o_E o_Q o_V o_I ++ wMX cI ad o_X) [] ⟨hx, hb, hml, hown, hts⟩ (c_Model_fail l D cI sd ad o_C o_X o_N o_T o_U o_O o_E o_Q o_V o_I r24.2 4 r24.2.1 r32 hcr32) (cwV2 hts q1163 mvX8_fail rfl rfl ⟨(Nat.le_of_ble_eq_true rfl), (Nat.le_of_ble_eq_true rfl)⟩) hK hE hA hP hD hS 0 (T := TX8) (N := 48) (ci := 8) rfl rfl [0] rfl (by decide) rfl rfl rfl rfl rfl rfl hl.1 (Nat.le_of_ble_eq_true rfl) dX8_readNumber_193 ⟨Nat.zero_le _, Nat.zero_le _⟩ (fun H locs hP hD hS => ?_)
                cases hM
                exact rt_v hx hb hr hlk hP hD hS rfl dX8_readNumber_196
              · replace hM := if_t c31 hM
                refine lv_lload_n hx hb dX8_readNumber_179 rfl (lv_at hl 1 rfl) ?_
                refine lv_ldc2 (v := 2147483647) hx hb hown (hts _ (inA q1202)) dX8_readNumber_180 ?_
                refine W.lcmp hx hb dX8_readNumber_183 ?_
                refine lv_if_le (tgt := 197) hx hb dX8_readNumber_184 (by decide) (fun c33 => ?_) (fun c33 => ?_)
                · replace hM := if_t c33 hM
                  refine lv_aload_n hx hb dX8_readNumber_197 rfl (lv_at hl 2 rfl) ?_
                  refine lv_bipush (v := 81) hx hb dX8_readNumber_198 (by decide) ?_
                  refine va_put (D := D) (ci := 8) (v := .int 81) (ty := .int) (C := RX8) (T := TX8) (N := 48) hx hb hts layX8 tyX8 tyX8_ok nmX8 hown hK hP hD hS 0 rfl rfl 7 (by decide) (hts _ (inA q985)) (fun _ h9 => h9) rfl (by decide +kernel) rfl rfl (Nat.le_of_ble_eq_true rfl) dX8_readNumber_200 (fun H locs hP hD hS => ?_)
                  have hP : va_P D vwCl (wM0 ad o_X (r24.2.1, 81, r24.2.2.2) o_N o_T o_U o_O o_E o_Q o_V o_I ++ wMX cI ad o_X) H := hP
                  have hD : va_D A (wM0 ad o_X (r24.2.1, 81, r24.2.2.2) o_N o_T o_U o_O o_E o_Q o_V o_I ++ wMX cI ad o_X) := hD
                  refine lv_aload_n hx hb dX8_readNumber_203 rfl (lv_at hl 2 rfl) ?_
                  refine lv_lload_n hx hb dX8_readNumber_204 rfl (lv_at hl 1 rfl) ?_
                  refine lv_l2i hx hb dX8_readNumber_205 rfl ?_
                  refine va_put (D := D) (ci := 8) (v := .int r24.1.toInt32) (ty := .int) (C := RX8) (T := TX8) (N := 48) hx hb hts layX8 tyX8 tyX8_ok nmX8 hown hK hP hD hS 0 rfl rfl 8 (by decide) (hts _ (inA q986)) (fun _ h9 => h9) rfl (by decide +kernel) rfl rfl (Nat.le_of_ble_eq_true rfl) dX8_readNumber_206 (fun H locs hP hD hS => ?_)
                  have hP : va_P D vwCl (wM0 ad o_X (r24.2.1, 81, r24.1.toInt32, r24.2.2.2.2) o_N o_T o_U o_O o_E o_Q o_V o_I ++ wMX cI ad o_X) H := hP
                  have hD : va_D A (wM0 ad o_X (r24.2.1, 81, r24.1.toInt32, r24.2.2.2.2) o_N o_T o_U o_O o_E o_Q o_V o_I ++ wMX cI ad o_X) := hD
                  cases hM
                  exact rt_v hx hb hr hlk hP hD hS rfl dX8_readNumber_209
                · replace hM := if_f c33 hM
                  refine lv_aload_n hx hb dX8_readNumber_187 rfl (lv_at hl 2 rfl) ?_
                  refine lv_iconst (v := 4) hx hb dX8_readNumber_188 (by decide) ?_
                  refine lv_aload_n hx hb dX8_readNumber_189 rfl (lv_at hl 2 rfl) ?_
                  refine va_get (D := D) (ci := 8) (v := .int r24.2.1) (C := RX8) (T := TX8) (N := 48) hx hb hts layX8 hown hK hP 0 rfl rfl 6 (by decide) (hts _ (inA q984)) (fun _ h9 => h9) rfl dX8_readNumber_190 ?_
                  obtain ⟨r34, hcr34, hM⟩ := ob_use hM
                  refine cl_V (As := [.int 4, .int r24.2.1]) (rest := []) (wM0 ad o_X r34 o_N o_T o_U o_O o_E o_Q o_V o_I ++ wMX cI ad o_X) [] ⟨hx, hb, hml, hown, hts⟩ (c_Model_fail l D cI sd ad o_C o_X o_N o_T o_U o_O o_E o_Q o_V o_I r24.2 4 r24.2.1 r34 hcr34) (cwV2 hts q1163 mvX8_fail rfl rfl ⟨(Nat.le_of_ble_eq_true rfl), (Nat.le_of_ble_eq_true rfl)⟩) hK hE hA hP hD hS 0 (T := TX8) (N := 48) (ci := 8) rfl rfl [0] rfl (by decide) rfl rfl rfl rfl rfl rfl hl.1 (Nat.le_of_ble_eq_true rfl) dX8_readNumber_193 ⟨Nat.zero_le _, Nat.zero_le _⟩ (fun H locs hP hD hS => ?_)
                  cases hM
                  exact rt_v hx hb hr hlk hP hD hS rfl dX8_readNumber_196
          · replace hM := if_f c22 hM
            refine lv_lload_n hx hb dX8_readNumber_114 rfl (lv_at hl 1 rfl) ?_
            refine lv_ldc2 (v := 2) hx hb hown (hts _ (inA q1194)) dX8_readNumber_115 ?_
            refine W.lcmp hx hb dX8_readNumber_118 ?_
            refine lv_if_ne (tgt := 126) hx hb dX8_readNumber_119 (by decide) (fun c35 => ?_) (fun c35 => ?_)
            · replace hM := if_f c35 hM
              refine lv_iconst (v := 0) hx hb dX8_readNumber_126 (by decide) ?_
              refine lv_istore (lv' := [(4, .int 0), (2, .long r2.1), (0, .ref (ad 100)), (1, .int a1)]) hx hb dX8_readNumber_127 hl (by decide) rfl (fun ls hl => ?_)
              refine lv_iload hx hb dX8_readNumber_129 (lv_at hl 0 rfl) ?_
              refine lv_if_eq (tgt := 143) hx hb dX8_readNumber_131 (by decide) (fun c36 => ?_) (fun c36 => False.elim (by revert c36; decide))
              refine lv_lload_n hx hb dX8_readNumber_143 rfl (lv_at hl 1 rfl) ?_
              refine lv_lstore_n (lv' := [(2, .long r2.1), (4, .int 0), (0, .ref (ad 100)), (1, .int a1)]) hx hb dX8_readNumber_144 rfl hl (by decide) rfl (fun ls hl => ?_)
              refine lv_iload hx hb dX8_readNumber_145 (lv_at hl 1 rfl) ?_
              refine lv_if_eq (tgt := 160) hx hb dX8_readNumber_147 (by decide) (fun c37 => ?_) (fun c37 => False.elim (by revert c37; decide))
              refine lv_iconst (v := 0) hx hb dX8_readNumber_160 (by decide) ?_
              refine lv_istore (lv' := [(4, .int 0), (2, .long r2.1), (0, .ref (ad 100)), (1, .int a1)]) hx hb dX8_readNumber_161 hl (by decide) rfl (fun ls hl => ?_)
              refine lv_iload hx hb dX8_readNumber_163 (lv_at hl 0 rfl) ?_
              refine lv_if_eq (tgt := 187) hx hb dX8_readNumber_165 (by decide) (fun c38 => ?_) (fun c38 => False.elim (by revert c38; decide))
              refine lv_aload_n hx hb dX8_readNumber_187 rfl (lv_at hl 2 rfl) ?_
              refine lv_iconst (v := 4) hx hb dX8_readNumber_188 (by decide) ?_
              refine lv_aload_n hx hb dX8_readNumber_189 rfl (lv_at hl 2 rfl) ?_
              refine va_get (D := D) (ci := 8) (v := .int r2.2.1) (C := RX8) (T := TX8) (N := 48) hx hb hts layX8 hown hK hP 0 rfl rfl 6 (by decide) (hts _ (inA q984)) (fun _ h9 => h9) rfl dX8_readNumber_190 ?_
              obtain ⟨r39, hcr39, hM⟩ := ob_use hM
              refine cl_V (As := [.int 4, .int r2.2.1]) (rest := []) (wM0 ad o_X r39 o_N o_T o_U o_O o_E o_Q o_V o_I ++ wMX cI ad o_X) [] ⟨hx, hb, hml, hown, hts⟩ (c_Model_fail l D cI sd ad o_C o_X o_N o_T o_U o_O o_E o_Q o_V o_I (r2.2.1, r2.2.2.1, r2.2.2.2.1, r2.2.2.2.2.1 + 1, r2.2.2.2.2.2) 4 r2.2.1 r39 hcr39) (cwV2 hts q1163 mvX8_fail rfl rfl ⟨(Nat.le_of_ble_eq_true rfl), (Nat.le_of_ble_eq_true rfl)⟩) hK hE hA hP hD hS 0 (T := TX8) (N := 48) (ci := 8) rfl rfl [0] rfl (by decide) rfl rfl rfl rfl rfl rfl hl.1 (Nat.le_of_ble_eq_true rfl) dX8_readNumber_193 ⟨Nat.zero_le _, Nat.zero_le _⟩ (fun H locs hP hD hS => ?_)
              cases hM
              exact rt_v hx hb hr hlk hP hD hS rfl dX8_readNumber_196
            · replace hM := if_t c35 hM
              refine lv_iconst (v := 1) hx hb dX8_readNumber_122 (by decide) ?_
              refine lv_goto (tgt := 127) hx hb dX8_readNumber_123 (by decide) ?_
              refine lv_istore (lv' := [(4, .int 1), (2, .long r2.1), (0, .ref (ad 100)), (1, .int a1)]) hx hb dX8_readNumber_127 hl (by decide) rfl (fun ls hl => ?_)
              refine lv_iload hx hb dX8_readNumber_129 (lv_at hl 0 rfl) ?_
              refine lv_if_eq (tgt := 143) hx hb dX8_readNumber_131 (by decide) (fun c40 => False.elim (by revert c40; decide)) (fun c40 => ?_)
              refine lv_aload_n hx hb dX8_readNumber_134 rfl (lv_at hl 2 rfl) ?_
              refine lv_lload_n hx hb dX8_readNumber_135 rfl (lv_at hl 1 rfl) ?_
              refine lv_l2i hx hb dX8_readNumber_136 rfl ?_
              obtain ⟨r41, hcr41, hM⟩ := ob_use hM
              refine cl_V (As := [.int r2.1.toInt32]) (rest := []) (wM0 ad o_X r41.2 o_N o_T o_U o_O o_E o_Q o_V o_I ++ wMX cI ad o_X) (.long r41.1 :: []) ⟨hx, hb, hml, hown, hts⟩ (c_Model_digits l D cI sd ad o_C o_N o_T o_U o_O o_E o_Q o_V o_I o_X (r2.2.1, r2.2.2.1, r2.2.2.2.1, r2.2.2.2.2.1 + 1, r2.2.2.2.2.2) r2.1.toInt32 r41 hcr41) (cwV2 hts q1171 mvX8_digits rfl rfl ⟨(Nat.le_of_ble_eq_true rfl), (Nat.le_of_ble_eq_true rfl)⟩) hK hE hA hP hD hS 0 (T := TX8) (N := 48) (ci := 8) rfl rfl [0, 1] rfl (by decide) rfl rfl rfl rfl rfl rfl hl.1 (Nat.le_of_ble_eq_true rfl) dX8_readNumber_137 ⟨Nat.zero_le _, Nat.zero_le _⟩ (fun H locs hP hD hS => ?_)
              refine lv_goto (tgt := 144) hx hb dX8_readNumber_140 (by decide) ?_
              refine lv_lstore_n (lv' := [(2, .long r41.1), (4, .int 1), (0, .ref (ad 100)), (1, .int a1)]) hx hb dX8_readNumber_144 rfl hl (by decide) rfl (fun ls hl => ?_)
              refine lv_iload hx hb dX8_readNumber_145 (lv_at hl 1 rfl) ?_
              refine lv_if_eq (tgt := 160) hx hb dX8_readNumber_147 (by decide) (fun c42 => False.elim (by revert c42; decide)) (fun c42 => ?_)
              refine lv_lload_n hx hb dX8_readNumber_150 rfl (lv_at hl 0 rfl) ?_
              refine lv_lconst (v := 0) hx hb dX8_readNumber_151 (by decide) ?_
              refine W.lcmp hx hb dX8_readNumber_152 ?_
              refine lv_if_lt (tgt := 160) hx hb dX8_readNumber_153 (by decide) (fun c43 => ?_) (fun c43 => ?_)
              · replace hM := if_t c43 hM
                refine lv_iconst (v := 0) hx hb dX8_readNumber_160 (by decide) ?_
                refine lv_istore (lv' := [(4, .int 0), (2, .long r41.1), (0, .ref (ad 100)), (1, .int a1)]) hx hb dX8_readNumber_161 hl (by decide) rfl (fun ls hl => ?_)
                refine lv_iload hx hb dX8_readNumber_163 (lv_at hl 0 rfl) ?_
                refine lv_if_eq (tgt := 187) hx hb dX8_readNumber_165 (by decide) (fun c44 => ?_) (fun c44 => False.elim (by revert c44; decide))
                refine lv_aload_n hx hb dX8_readNumber_187 rfl (lv_at hl 2 rfl) ?_
                refine lv_iconst (v := 4) hx hb dX8_readNumber_188 (by decide) ?_
                refine lv_aload_n hx hb dX8_readNumber_189 rfl (lv_at hl 2 rfl) ?_
                refine va_get (D := D) (ci := 8) (v := .int r41.2.1) (C := RX8) (T := TX8) (N := 48) hx hb hts layX8 hown hK hP 0 rfl rfl 6 (by decide) (hts _ (inA q984)) (fun _ h9 => h9) rfl dX8_readNumber_190 ?_
                obtain ⟨r45, hcr45, hM⟩ := ob_use hM
                refine cl_V (As := [.int 4, .int r41.2.1]) (rest := []) (wM0 ad o_X r45 o_N o_T o_U o_O o_E o_Q o_V o_I ++ wMX cI ad o_X) [] ⟨hx, hb, hml, hown, hts⟩ (c_Model_fail l D cI sd ad o_C o_X o_N o_T o_U o_O o_E o_Q o_V o_I r41.2 4 r41.2.1 r45 hcr45) (cwV2 hts q1163 mvX8_fail rfl rfl ⟨(Nat.le_of_ble_eq_true rfl), (Nat.le_of_ble_eq_true rfl)⟩) hK hE hA hP hD hS 0 (T := TX8) (N := 48) (ci := 8) rfl rfl [0] rfl (by decide) rfl rfl rfl rfl rfl rfl hl.1 (Nat.le_of_ble_eq_true rfl) dX8_readNumber_193 ⟨Nat.zero_le _, Nat.zero_le _⟩ (fun H locs hP hD hS => ?_)
                cases hM
                exact rt_v hx hb hr hlk hP hD hS rfl dX8_readNumber_196
              · replace hM := if_f c43 hM
                refine lv_iconst (v := 1) hx hb dX8_readNumber_156 (by decide) ?_
                refine lv_goto (tgt := 161) hx hb dX8_readNumber_157 (by decide) ?_
                refine lv_istore (lv' := [(4, .int 1), (2, .long r41.1), (0, .ref (ad 100)), (1, .int a1)]) hx hb dX8_readNumber_161 hl (by decide) rfl (fun ls hl => ?_)
                refine lv_iload hx hb dX8_readNumber_163 (lv_at hl 0 rfl) ?_
                refine lv_if_eq (tgt := 187) hx hb dX8_readNumber_165 (by decide) (fun c46 => False.elim (by revert c46; decide)) (fun c46 => ?_)
                refine lv_aload_n hx hb dX8_readNumber_168 rfl (lv_at hl 2 rfl) ?_
                refine lv_aload_n hx hb dX8_readNumber_169 rfl (lv_at hl 2 rfl) ?_
                refine va_get (D := D) (ci := 8) (v := .int r41.2.2.2.2.1) (C := RX8) (T := TX8) (N := 48) hx hb hts layX8 hown hK hP 0 rfl rfl 9 (by decide) (hts _ (inA q987)) (fun _ h9 => h9) rfl dX8_readNumber_170 ?_
                obtain ⟨r47, hcr47, hM⟩ := ob_use hM
                refine cl_V (As := [.int r41.2.2.2.2.1]) (rest := []) (wM0 ad o_X r41.2 o_N o_T o_U o_O o_E o_Q o_V o_I ++ wMX cI ad o_X) (.int r47 :: []) ⟨hx, hb, hml, hown, hts⟩ (c_Model_goesOn l D cI sd ad o_C r41.2 o_N o_T o_U o_O o_E o_Q o_V o_I o_X r41.2.2.2.2.1 r47 hcr47) (cwV2 hts q1195 mvX8_goesOn rfl rfl ⟨(Nat.le_of_ble_eq_true rfl), (Nat.le_of_ble_eq_true rfl)⟩) hK hE hA hP hD hS 0 (T := TX8) (N := 48) (ci := 8) rfl rfl [0, 1] rfl (by decide) rfl rfl rfl rfl rfl rfl hl.1 (Nat.le_of_ble_eq_true rfl) dX8_readNumber_173 ⟨Nat.zero_le _, Nat.zero_le _⟩ (fun H locs hP hD hS => ?_)
                refine lv_if_ne (tgt := 187) hx hb dX8_readNumber_176 (by decide) (fun c48 => ?_) (fun c48 => ?_)
                · replace hM := if_f c48 hM
                  refine lv_aload_n hx hb dX8_readNumber_187 rfl (lv_at hl 2 rfl) ?_
                  refine lv_iconst (v := 4) hx hb dX8_readNumber_188 (by decide) ?_
                  refine lv_aload_n hx hb dX8_readNumber_189 rfl (lv_at hl 2 rfl) ?_
                  refine va_get (D := D) (ci := 8) (v := .int r41.2.1) (C := RX8) (T := TX8) (N := 48) hx hb hts layX8 hown hK hP 0 rfl rfl 6 (by decide) (hts _ (inA q984)) (fun _ h9 => h9) rfl dX8_readNumber_190 ?_
                  obtain ⟨r49, hcr49, hM⟩ := ob_use hM
                  refine cl_V (As := [.int 4, .int r41.2.1]) (rest := []) (wM0 ad o_X r49 o_N o_T o_U o_O o_E o_Q o_V o_I ++ wMX cI ad o_X) [] ⟨hx, hb, hml, hown, hts⟩ (c_Model_fail l D cI sd ad o_C o_X o_N o_T o_U o_O o_E o_Q o_V o_I r41.2 4 r41.2.1 r49 hcr49) (cwV2 hts q1163 mvX8_fail rfl rfl ⟨(Nat.le_of_ble_eq_true rfl), (Nat.le_of_ble_eq_true rfl)⟩) hK hE hA hP hD hS 0 (T := TX8) (N := 48) (ci := 8) rfl rfl [0] rfl (by decide) rfl rfl rfl rfl rfl rfl hl.1 (Nat.le_of_ble_eq_true rfl) dX8_readNumber_193 ⟨Nat.zero_le _, Nat.zero_le _⟩ (fun H locs hP hD hS => ?_)
                  cases hM
                  exact rt_v hx hb hr hlk hP hD hS rfl dX8_readNumber_196
                · replace hM := if_t c48 hM
                  refine lv_lload_n hx hb dX8_readNumber_179 rfl (lv_at hl 1 rfl) ?_
                  refine lv_ldc2 (v := 2147483647) hx hb hown (hts _ (inA q1202)) dX8_readNumber_180 ?_
                  refine W.lcmp hx hb dX8_readNumber_183 ?_
                  refine lv_if_le (tgt := 197) hx hb dX8_readNumber_184 (by decide) (fun c50 => ?_) (fun c50 => ?_)
                  · replace hM := if_t c50 hM
                    refine lv_aload_n hx hb dX8_readNumber_197 rfl (lv_at hl 2 rfl) ?_
                    refine lv_bipush (v := 81) hx hb dX8_readNumber_198 (by decide) ?_
                    refine va_put (D := D) (ci := 8) (v := .int 81) (ty := .int) (C := RX8) (T := TX8) (N := 48) hx hb hts layX8 tyX8 tyX8_ok nmX8 hown hK hP hD hS 0 rfl rfl 7 (by decide) (hts _ (inA q985)) (fun _ h9 => h9) rfl (by decide +kernel) rfl rfl (Nat.le_of_ble_eq_true rfl) dX8_readNumber_200 (fun H locs hP hD hS => ?_)
                    have hP : va_P D vwCl (wM0 ad o_X (r41.2.1, 81, r41.2.2.2) o_N o_T o_U o_O o_E o_Q o_V o_I ++ wMX cI ad o_X) H := hP
                    have hD : va_D A (wM0 ad o_X (r41.2.1, 81, r41.2.2.2) o_N o_T o_U o_O o_E o_Q o_V o_I ++ wMX cI ad o_X) := hD
                    refine lv_aload_n hx hb dX8_readNumber_203 rfl (lv_at hl 2 rfl) ?_
                    refine lv_lload_n hx hb dX8_readNumber_204 rfl (lv_at hl 1 rfl) ?_
                    refine lv_l2i hx hb dX8_readNumber_205 rfl ?_
                    refine va_put (D := D) (ci := 8) (v := .int r41.1.toInt32) (ty := .int) (C := RX8) (T := TX8) (N := 48) hx hb hts layX8 tyX8 tyX8_ok nmX8 hown hK hP hD hS 0 rfl rfl 8 (by decide) (hts _ (inA q986)) (fun _ h9 => h9) rfl (by decide +kernel) rfl rfl (Nat.le_of_ble_eq_true rfl) dX8_readNumber_206 (fun H locs hP hD hS => ?_)
                    have hP : va_P D vwCl (wM0 ad o_X (r41.2.1, 81, r41.1.toInt32, r41.2.2.2.2) o_N o_T o_U o_O o_E o_Q o_V o_I ++ wMX cI ad o_X) H := hP
                    have hD : va_D A (wM0 ad o_X (r41.2.1, 81, r41.1.toInt32, r41.2.2.2.2) o_N o_T o_U o_O o_E o_Q o_V o_I ++ wMX cI ad o_X) := hD
                    cases hM
                    exact rt_v hx hb hr hlk hP hD hS rfl dX8_readNumber_209
                  · replace hM := if_f c50 hM
                    refine lv_aload_n hx hb dX8_readNumber_187 rfl (lv_at hl 2 rfl) ?_
                    refine lv_iconst (v := 4) hx hb dX8_readNumber_188 (by decide) ?_
                    refine lv_aload_n hx hb dX8_readNumber_189 rfl (lv_at hl 2 rfl) ?_
                    refine va_get (D := D) (ci := 8) (v := .int r41.2.1) (C := RX8) (T := TX8) (N := 48) hx hb hts layX8 hown hK hP 0 rfl rfl 6 (by decide) (hts _ (inA q984)) (fun _ h9 => h9) rfl dX8_readNumber_190 ?_
                    obtain ⟨r51, hcr51, hM⟩ := ob_use hM
                    refine cl_V (As := [.int 4, .int r41.2.1]) (rest := []) (wM0 ad o_X r51 o_N o_T o_U o_O o_E o_Q o_V o_I ++ wMX cI ad o_X) [] ⟨hx, hb, hml, hown, hts⟩ (c_Model_fail l D cI sd ad o_C o_X o_N o_T o_U o_O o_E o_Q o_V o_I r41.2 4 r41.2.1 r51 hcr51) (cwV2 hts q1163 mvX8_fail rfl rfl ⟨(Nat.le_of_ble_eq_true rfl), (Nat.le_of_ble_eq_true rfl)⟩) hK hE hA hP hD hS 0 (T := TX8) (N := 48) (ci := 8) rfl rfl [0] rfl (by decide) rfl rfl rfl rfl rfl rfl hl.1 (Nat.le_of_ble_eq_true rfl) dX8_readNumber_193 ⟨Nat.zero_le _, Nat.zero_le _⟩ (fun H locs hP hD hS => ?_)
                    cases hM
                    exact rt_v hx hb hr hlk hP hD hS rfl dX8_readNumber_196
      · replace hM := if_f c12 hM
        refine lv_iload hx hb dX8_readNumber_45 (lv_at hl 0 rfl) ?_
        refine lv_if_eq (tgt := 78) hx hb dX8_readNumber_47 (by decide) (fun c52 => False.elim (by revert c52; decide)) (fun c52 => ?_)
        refine lv_aload_n hx hb dX8_readNumber_50 rfl (lv_at hl 2 rfl) ?_
        obtain ⟨r53, hcr53, hM⟩ := ob_use hM
        refine cl_V (As := []) (rest := []) (wM0 ad o_X r53.2 o_N o_T o_U o_O o_E o_Q o_V o_I ++ wMX cI ad o_X) (.long r53.1 :: []) ⟨hx, hb, hml, hown, hts⟩ (c_Model_unit l D cI sd ad o_C o_N o_T o_U o_O o_E o_Q o_V o_I o_X r2.2 r53 hcr53) (cwV2 hts q1186 mvX8_unit rfl rfl ⟨(Nat.le_of_ble_eq_true rfl), (Nat.le_of_ble_eq_true rfl)⟩) hK hE hA hP hD hS 0 (T := TX8) (N := 48) (ci := 8) rfl rfl [0, 1] rfl (by decide) rfl rfl rfl rfl rfl rfl hl.1 (Nat.le_of_ble_eq_true rfl) dX8_readNumber_51 ⟨Nat.zero_le _, Nat.zero_le _⟩ (fun H locs hP hD hS => ?_)
        refine lv_lstore (lv' := [(5, .long r53.1), (4, .int 1), (2, .long r2.1), (0, .ref (ad 100)), (1, .int a1)]) hx hb dX8_readNumber_54 hl (by decide) rfl (fun ls hl => ?_)
        refine lv_lload hx hb dX8_readNumber_56 (lv_at hl 0 rfl) ?_
        refine lv_lconst (v := 0) hx hb dX8_readNumber_58 (by decide) ?_
        refine W.lcmp hx hb dX8_readNumber_59 ?_
        refine lv_if_le (tgt := 67) hx hb dX8_readNumber_60 (by decide) (fun c54 => ?_) (fun c54 => ?_)
        · replace hM := if_t c54 hM
          refine lv_iconst (v := 0) hx hb dX8_readNumber_67 (by decide) ?_
          refine lv_istore (lv' := [(4, .int 0), (5, .long r53.1), (2, .long r2.1), (0, .ref (ad 100)), (1, .int a1)]) hx hb dX8_readNumber_68 hl (by decide) rfl (fun ls hl => ?_)
          refine lv_lload_n hx hb dX8_readNumber_70 rfl (lv_at hl 2 rfl) ?_
          refine lv_lload hx hb dX8_readNumber_71 (lv_at hl 1 rfl) ?_
          refine lv_lmul hx hb dX8_readNumber_73 ?_
          refine lv_lstore_n (lv' := [(2, .long (r2.1 * r53.1)), (4, .int 0), (5, .long r53.1), (0, .ref (ad 100)), (1, .int a1)]) hx hb dX8_readNumber_74 rfl hl (by decide) rfl (fun ls hl => ?_)
          refine lv_goto (tgt := 163) hx hb dX8_readNumber_75 (by decide) ?_
          refine lv_iload hx hb dX8_readNumber_163 (lv_at hl 1 rfl) ?_
          refine lv_if_eq (tgt := 187) hx hb dX8_readNumber_165 (by decide) (fun c55 => ?_) (fun c55 => False.elim (by revert c55; decide))
          refine lv_aload_n hx hb dX8_readNumber_187 rfl (lv_at hl 3 rfl) ?_
          refine lv_iconst (v := 4) hx hb dX8_readNumber_188 (by decide) ?_
          refine lv_aload_n hx hb dX8_readNumber_189 rfl (lv_at hl 3 rfl) ?_
          refine va_get (D := D) (ci := 8) (v := .int r53.2.1) (C := RX8) (T := TX8) (N := 48) hx hb hts layX8 hown hK hP 0 rfl rfl 6 (by decide) (hts _ (inA q984)) (fun _ h9 => h9) rfl dX8_readNumber_190 ?_
          obtain ⟨r56, hcr56, hM⟩ := ob_use hM
          refine cl_V (As := [.int 4, .int r53.2.1]) (rest := []) (wM0 ad o_X r56 o_N o_T o_U o_O o_E o_Q o_V o_I ++ wMX cI ad o_X) [] ⟨hx, hb, hml, hown, hts⟩ (c_Model_fail l D cI sd ad o_C o_X o_N o_T o_U o_O o_E o_Q o_V o_I r53.2 4 r53.2.1 r56 hcr56) (cwV2 hts q1163 mvX8_fail rfl rfl ⟨(Nat.le_of_ble_eq_true rfl), (Nat.le_of_ble_eq_true rfl)⟩) hK hE hA hP hD hS 0 (T := TX8) (N := 48) (ci := 8) rfl rfl [0] rfl (by decide) rfl rfl rfl rfl rfl rfl hl.1 (Nat.le_of_ble_eq_true rfl) dX8_readNumber_193 ⟨Nat.zero_le _, Nat.zero_le _⟩ (fun H locs hP hD hS => ?_)
          cases hM
          exact rt_v hx hb hr hlk hP hD hS rfl dX8_readNumber_196
        · replace hM := if_f c54 hM
          refine lv_iconst (v := 1) hx hb dX8_readNumber_63 (by decide) ?_
          refine lv_goto (tgt := 68) hx hb dX8_readNumber_64 (by decide) ?_
          refine lv_istore (lv' := [(4, .int 1), (5, .long r53.1), (2, .long r2.1), (0, .ref (ad 100)), (1, .int a1)]) hx hb dX8_readNumber_68 hl (by decide) rfl (fun ls hl => ?_)
          refine lv_lload_n hx hb dX8_readNumber_70 rfl (lv_at hl 2 rfl) ?_
          refine lv_lload hx hb dX8_readNumber_71 (lv_at hl 1 rfl) ?_
          refine lv_lmul hx hb dX8_readNumber_73 ?_
          refine lv_lstore_n (lv' := [(2, .long (r2.1 * r53.1)), (4, .int 1), (5, .long r53.1), (0, .ref (ad 100)), (1, .int a1)]) hx hb dX8_readNumber_74 rfl hl (by decide) rfl (fun ls hl => ?_)
          refine lv_goto (tgt := 163) hx hb dX8_readNumber_75 (by decide) ?_
          refine lv_iload hx hb dX8_readNumber_163 (lv_at hl 1 rfl) ?_
          refine lv_if_eq (tgt := 187) hx hb dX8_readNumber_165 (by decide) (fun c57 => False.elim (by revert c57; decide)) (fun c57 => ?_)
          refine lv_aload_n hx hb dX8_readNumber_168 rfl (lv_at hl 3 rfl) ?_
          refine lv_aload_n hx hb dX8_readNumber_169 rfl (lv_at hl 3 rfl) ?_
          refine va_get (D := D) (ci := 8) (v := .int r53.2.2.2.2.1) (C := RX8) (T := TX8) (N := 48) hx hb hts layX8 hown hK hP 0 rfl rfl 9 (by decide) (hts _ (inA q987)) (fun _ h9 => h9) rfl dX8_readNumber_170 ?_
          obtain ⟨r58, hcr58, hM⟩ := ob_use hM
          refine cl_V (As := [.int r53.2.2.2.2.1]) (rest := []) (wM0 ad o_X r53.2 o_N o_T o_U o_O o_E o_Q o_V o_I ++ wMX cI ad o_X) (.int r58 :: []) ⟨hx, hb, hml, hown, hts⟩ (c_Model_goesOn l D cI sd ad o_C r53.2 o_N o_T o_U o_O o_E o_Q o_V o_I o_X r53.2.2.2.2.1 r58 hcr58) (cwV2 hts q1195 mvX8_goesOn rfl rfl ⟨(Nat.le_of_ble_eq_true rfl), (Nat.le_of_ble_eq_true rfl)⟩) hK hE hA hP hD hS 0 (T := TX8) (N := 48) (ci := 8) rfl rfl [0, 1] rfl (by decide) rfl rfl rfl rfl rfl rfl hl.1 (Nat.le_of_ble_eq_true rfl) dX8_readNumber_173 ⟨Nat.zero_le _, Nat.zero_le _⟩ (fun H locs hP hD hS => ?_)
          refine lv_if_ne (tgt := 187) hx hb dX8_readNumber_176 (by decide) (fun c59 => ?_) (fun c59 => ?_)
          · replace hM := if_f c59 hM
            refine lv_aload_n hx hb dX8_readNumber_187 rfl (lv_at hl 3 rfl) ?_
            refine lv_iconst (v := 4) hx hb dX8_readNumber_188 (by decide) ?_
            refine lv_aload_n hx hb dX8_readNumber_189 rfl (lv_at hl 3 rfl) ?_
            refine va_get (D := D) (ci := 8) (v := .int r53.2.1) (C := RX8) (T := TX8) (N := 48) hx hb hts layX8 hown hK hP 0 rfl rfl 6 (by decide) (hts _ (inA q984)) (fun _ h9 => h9) rfl dX8_readNumber_190 ?_
            obtain ⟨r60, hcr60, hM⟩ := ob_use hM
            refine cl_V (As := [.int 4, .int r53.2.1]) (rest := []) (wM0 ad o_X r60 o_N o_T o_U o_O o_E o_Q o_V o_I ++ wMX cI ad o_X) [] ⟨hx, hb, hml, hown, hts⟩ (c_Model_fail l D cI sd ad o_C o_X o_N o_T o_U o_O o_E o_Q o_V o_I r53.2 4 r53.2.1 r60 hcr60) (cwV2 hts q1163 mvX8_fail rfl rfl ⟨(Nat.le_of_ble_eq_true rfl), (Nat.le_of_ble_eq_true rfl)⟩) hK hE hA hP hD hS 0 (T := TX8) (N := 48) (ci := 8) rfl rfl [0] rfl (by decide) rfl rfl rfl rfl rfl rfl hl.1 (Nat.le_of_ble_eq_true rfl) dX8_readNumber_193 ⟨Nat.zero_le _, Nat.zero_le _⟩ (fun H locs hP hD hS => ?_)
            cases hM
            exact rt_v hx hb hr hlk hP hD hS rfl dX8_readNumber_196
          · replace hM := if_t c59 hM
            refine lv_lload_n hx hb dX8_readNumber_179 rfl (lv_at hl 0 rfl) ?_
            refine lv_ldc2 (v := 2147483647) hx hb hown (hts _ (inA q1202)) dX8_readNumber_180 ?_
            refine W.lcmp hx hb dX8_readNumber_183 ?_
            refine lv_if_le (tgt := 197) hx hb dX8_readNumber_184 (by decide) (fun c61 => ?_) (fun c61 => ?_)
            · replace hM := if_t c61 hM
              refine lv_aload_n hx hb dX8_readNumber_197 rfl (lv_at hl 3 rfl) ?_
              refine lv_bipush (v := 81) hx hb dX8_readNumber_198 (by decide) ?_
              refine va_put (D := D) (ci := 8) (v := .int 81) (ty := .int) (C := RX8) (T := TX8) (N := 48) hx hb hts layX8 tyX8 tyX8_ok nmX8 hown hK hP hD hS 0 rfl rfl 7 (by decide) (hts _ (inA q985)) (fun _ h9 => h9) rfl (by decide +kernel) rfl rfl (Nat.le_of_ble_eq_true rfl) dX8_readNumber_200 (fun H locs hP hD hS => ?_)
              have hP : va_P D vwCl (wM0 ad o_X (r53.2.1, 81, r53.2.2.2) o_N o_T o_U o_O o_E o_Q o_V o_I ++ wMX cI ad o_X) H := hP
              have hD : va_D A (wM0 ad o_X (r53.2.1, 81, r53.2.2.2) o_N o_T o_U o_O o_E o_Q o_V o_I ++ wMX cI ad o_X) := hD
              refine lv_aload_n hx hb dX8_readNumber_203 rfl (lv_at hl 3 rfl) ?_
              refine lv_lload_n hx hb dX8_readNumber_204 rfl (lv_at hl 0 rfl) ?_
              refine lv_l2i hx hb dX8_readNumber_205 rfl ?_
              refine va_put (D := D) (ci := 8) (v := .int ((r2.1 * r53.1).toInt32)) (ty := .int) (C := RX8) (T := TX8) (N := 48) hx hb hts layX8 tyX8 tyX8_ok nmX8 hown hK hP hD hS 0 rfl rfl 8 (by decide) (hts _ (inA q986)) (fun _ h9 => h9) rfl (by decide +kernel) rfl rfl (Nat.le_of_ble_eq_true rfl) dX8_readNumber_206 (fun H locs hP hD hS => ?_)
              have hP : va_P D vwCl (wM0 ad o_X (r53.2.1, 81, (r2.1 * r53.1).toInt32, r53.2.2.2.2) o_N o_T o_U o_O o_E o_Q o_V o_I ++ wMX cI ad o_X) H := hP
              have hD : va_D A (wM0 ad o_X (r53.2.1, 81, (r2.1 * r53.1).toInt32, r53.2.2.2.2) o_N o_T o_U o_O o_E o_Q o_V o_I ++ wMX cI ad o_X) := hD
              cases hM
              exact rt_v hx hb hr hlk hP hD hS rfl dX8_readNumber_209
            · replace hM := if_f c61 hM
              refine lv_aload_n hx hb dX8_readNumber_187 rfl (lv_at hl 3 rfl) ?_
              refine lv_iconst (v := 4) hx hb dX8_readNumber_188 (by decide) ?_
              refine lv_aload_n hx hb dX8_readNumber_189 rfl (lv_at hl 3 rfl) ?_
              refine va_get (D := D) (ci := 8) (v := .int r53.2.1) (C := RX8) (T := TX8) (N := 48) hx hb hts layX8 hown hK hP 0 rfl rfl 6 (by decide) (hts _ (inA q984)) (fun _ h9 => h9) rfl dX8_readNumber_190 ?_
              obtain ⟨r62, hcr62, hM⟩ := ob_use hM
              refine cl_V (As := [.int 4, .int r53.2.1]) (rest := []) (wM0 ad o_X r62 o_N o_T o_U o_O o_E o_Q o_V o_I ++ wMX cI ad o_X) [] ⟨hx, hb, hml, hown, hts⟩ (c_Model_fail l D cI sd ad o_C o_X o_N o_T o_U o_O o_E o_Q o_V o_I r53.2 4 r53.2.1 r62 hcr62) (cwV2 hts q1163 mvX8_fail rfl rfl ⟨(Nat.le_of_ble_eq_true rfl), (Nat.le_of_ble_eq_true rfl)⟩) hK hE hA hP hD hS 0 (T := TX8) (N := 48) (ci := 8) rfl rfl [0] rfl (by decide) rfl rfl rfl rfl rfl rfl hl.1 (Nat.le_of_ble_eq_true rfl) dX8_readNumber_193 ⟨Nat.zero_le _, Nat.zero_le _⟩ (fun H locs hP hD hS => ?_)
              cases hM
              exact rt_v hx hb hr hlk hP hD hS rfl dX8_readNumber_196
  · replace hM := if_f c1 hM
    refine lv_aload_n hx hb dX8_readNumber_5 rfl (lv_at hl 0 rfl) ?_
    refine va_get (D := D) (ci := 8) (v := .int o_L.1) (C := RX8) (T := TX8) (N := 48) hx hb hts layX8 hown hK hP 0 rfl rfl 6 (by decide) (hts _ (inA q984)) (fun _ h9 => h9) rfl dX8_readNumber_6 ?_
    refine lv_iconst (v := 2) hx hb dX8_readNumber_9 (by decide) ?_
    refine lv_iadd hx hb dX8_readNumber_10 ?_
    refine lv_goto (tgt := 18) hx hb dX8_readNumber_11 (by decide) ?_
    refine va_put (D := D) (ci := 8) (v := .int (o_L.1 + 2)) (ty := .int) (C := RX8) (T := TX8) (N := 48) hx hb hts layX8 tyX8 tyX8_ok nmX8 hown hK hP hD hS 0 rfl rfl 9 (by decide) (hts _ (inA q987)) (fun _ h9 => h9) rfl (by decide +kernel) rfl rfl (Nat.le_of_ble_eq_true rfl) dX8_readNumber_18 (fun H locs hP hD hS => ?_)
    have hP : va_P D vwCl (wM0 ad o_X (o_L.1, o_L.2.1, o_L.2.2.1, o_L.1 + 2, o_L.2.2.2.2) o_N o_T o_U o_O o_E o_Q o_V o_I ++ wMX cI ad o_X) H := hP
    have hD : va_D A (wM0 ad o_X (o_L.1, o_L.2.1, o_L.2.2.1, o_L.1 + 2, o_L.2.2.2.2) o_N o_T o_U o_O o_E o_Q o_V o_I ++ wMX cI ad o_X) := hD
    refine lv_aload_n hx hb dX8_readNumber_21 rfl (lv_at hl 0 rfl) ?_
    refine lv_bipush (v := 10) hx hb dX8_readNumber_22 (by decide) ?_
    obtain ⟨r63, hcr63, hM⟩ := ob_use hM
    refine cl_V (As := [.int 10]) (rest := []) (wM0 ad o_X r63.2 o_N o_T o_U o_O o_E o_Q o_V o_I ++ wMX cI ad o_X) (.long r63.1 :: []) ⟨hx, hb, hml, hown, hts⟩ (c_Model_digits l D cI sd ad o_C o_N o_T o_U o_O o_E o_Q o_V o_I o_X (o_L.1, o_L.2.1, o_L.2.2.1, o_L.1 + 2, o_L.2.2.2.2) 10 r63 hcr63) (cwV2 hts q1171 mvX8_digits rfl rfl ⟨(Nat.le_of_ble_eq_true rfl), (Nat.le_of_ble_eq_true rfl)⟩) hK hE hA hP hD hS 0 (T := TX8) (N := 48) (ci := 8) rfl rfl [0, 1] rfl (by decide) rfl rfl rfl rfl rfl rfl hl.1 (Nat.le_of_ble_eq_true rfl) dX8_readNumber_24 ⟨Nat.zero_le _, Nat.zero_le _⟩ (fun H locs hP hD hS => ?_)
    refine lv_lstore_n (lv' := [(2, .long r63.1), (0, .ref (ad 100)), (1, .int a1)]) hx hb dX8_readNumber_27 rfl hl (by decide) rfl (fun ls hl => ?_)
    refine lv_lload_n hx hb dX8_readNumber_28 rfl (lv_at hl 0 rfl) ?_
    refine lv_lconst (v := 0) hx hb dX8_readNumber_29 (by decide) ?_
    refine W.lcmp hx hb dX8_readNumber_30 ?_
    refine lv_if_lt (tgt := 38) hx hb dX8_readNumber_31 (by decide) (fun c64 => ?_) (fun c64 => ?_)
    · replace hM := if_t c64 hM
      refine lv_iconst (v := 0) hx hb dX8_readNumber_38 (by decide) ?_
      refine lv_istore (lv' := [(4, .int 0), (2, .long r63.1), (0, .ref (ad 100)), (1, .int a1)]) hx hb dX8_readNumber_39 hl (by decide) rfl (fun ls hl => ?_)
      refine lv_iload_n hx hb dX8_readNumber_41 rfl (lv_at hl 3 rfl) ?_
      refine lv_if_eq (tgt := 78) hx hb dX8_readNumber_42 (by decide) (fun c65 => ?_) (fun c65 => ?_)
      · replace hM := if_t c65 hM
        refine lv_iload hx hb dX8_readNumber_78 (lv_at hl 0 rfl) ?_
        refine lv_if_eq (tgt := 163) hx hb dX8_readNumber_80 (by decide) (fun c66 => ?_) (fun c66 => False.elim (by revert c66; decide))
        refine lv_iload hx hb dX8_readNumber_163 (lv_at hl 0 rfl) ?_
        refine lv_if_eq (tgt := 187) hx hb dX8_readNumber_165 (by decide) (fun c67 => ?_) (fun c67 => False.elim (by revert c67; decide))
        refine lv_aload_n hx hb dX8_readNumber_187 rfl (lv_at hl 2 rfl) ?_
        refine lv_iconst (v := 4) hx hb dX8_readNumber_188 (by decide) ?_
        refine lv_aload_n hx hb dX8_readNumber_189 rfl (lv_at hl 2 rfl) ?_
        refine va_get (D := D) (ci := 8) (v := .int r63.2.1) (C := RX8) (T := TX8) (N := 48) hx hb hts layX8 hown hK hP 0 rfl rfl 6 (by decide) (hts _ (inA q984)) (fun _ h9 => h9) rfl dX8_readNumber_190 ?_
        obtain ⟨r68, hcr68, hM⟩ := ob_use hM
        refine cl_V (As := [.int 4, .int r63.2.1]) (rest := []) (wM0 ad o_X r68 o_N o_T o_U o_O o_E o_Q o_V o_I ++ wMX cI ad o_X) [] ⟨hx, hb, hml, hown, hts⟩ (c_Model_fail l D cI sd ad o_C o_X o_N o_T o_U o_O o_E o_Q o_V o_I r63.2 4 r63.2.1 r68 hcr68) (cwV2 hts q1163 mvX8_fail rfl rfl ⟨(Nat.le_of_ble_eq_true rfl), (Nat.le_of_ble_eq_true rfl)⟩) hK hE hA hP hD hS 0 (T := TX8) (N := 48) (ci := 8) rfl rfl [0] rfl (by decide) rfl rfl rfl rfl rfl rfl hl.1 (Nat.le_of_ble_eq_true rfl) dX8_readNumber_193 ⟨Nat.zero_le _, Nat.zero_le _⟩ (fun H locs hP hD hS => ?_)
        cases hM
        exact rt_v hx hb hr hlk hP hD hS rfl dX8_readNumber_196
      · replace hM := if_f c65 hM
        refine lv_iload hx hb dX8_readNumber_45 (lv_at hl 0 rfl) ?_
        refine lv_if_eq (tgt := 78) hx hb dX8_readNumber_47 (by decide) (fun c69 => ?_) (fun c69 => False.elim (by revert c69; decide))
        refine lv_iload hx hb dX8_readNumber_78 (lv_at hl 0 rfl) ?_
        refine lv_if_eq (tgt := 163) hx hb dX8_readNumber_80 (by decide) (fun c70 => ?_) (fun c70 => False.elim (by revert c70; decide))
        refine lv_iload hx hb dX8_readNumber_163 (lv_at hl 0 rfl) ?_
        refine lv_if_eq (tgt := 187) hx hb dX8_readNumber_165 (by decide) (fun c71 => ?_) (fun c71 => False.elim (by revert c71; decide))
        refine lv_aload_n hx hb dX8_readNumber_187 rfl (lv_at hl 2 rfl) ?_
        refine lv_iconst (v := 4) hx hb dX8_readNumber_188 (by decide) ?_
        refine lv_aload_n hx hb dX8_readNumber_189 rfl (lv_at hl 2 rfl) ?_
        refine va_get (D := D) (ci := 8) (v := .int r63.2.1) (C := RX8) (T := TX8) (N := 48) hx hb hts layX8 hown hK hP 0 rfl rfl 6 (by decide) (hts _ (inA q984)) (fun _ h9 => h9) rfl dX8_readNumber_190 ?_
        obtain ⟨r72, hcr72, hM⟩ := ob_use hM
        refine cl_V (As := [.int 4, .int r63.2.1]) (rest := []) (wM0 ad o_X r72 o_N o_T o_U o_O o_E o_Q o_V o_I ++ wMX cI ad o_X) [] ⟨hx, hb, hml, hown, hts⟩ (c_Model_fail l D cI sd ad o_C o_X o_N o_T o_U o_O o_E o_Q o_V o_I r63.2 4 r63.2.1 r72 hcr72) (cwV2 hts q1163 mvX8_fail rfl rfl ⟨(Nat.le_of_ble_eq_true rfl), (Nat.le_of_ble_eq_true rfl)⟩) hK hE hA hP hD hS 0 (T := TX8) (N := 48) (ci := 8) rfl rfl [0] rfl (by decide) rfl rfl rfl rfl rfl rfl hl.1 (Nat.le_of_ble_eq_true rfl) dX8_readNumber_193 ⟨Nat.zero_le _, Nat.zero_le _⟩ (fun H locs hP hD hS => ?_)
        cases hM
        exact rt_v hx hb hr hlk hP hD hS rfl dX8_readNumber_196
    · replace hM := if_f c64 hM
      refine lv_iconst (v := 1) hx hb dX8_readNumber_34 (by decide) ?_
      refine lv_goto (tgt := 39) hx hb dX8_readNumber_35 (by decide) ?_
      refine lv_istore (lv' := [(4, .int 1), (2, .long r63.1), (0, .ref (ad 100)), (1, .int a1)]) hx hb dX8_readNumber_39 hl (by decide) rfl (fun ls hl => ?_)
      refine lv_iload_n hx hb dX8_readNumber_41 rfl (lv_at hl 3 rfl) ?_
      refine lv_if_eq (tgt := 78) hx hb dX8_readNumber_42 (by decide) (fun c73 => ?_) (fun c73 => ?_)
      · replace hM := if_t c73 hM
        refine lv_iload hx hb dX8_readNumber_78 (lv_at hl 0 rfl) ?_
        refine lv_if_eq (tgt := 163) hx hb dX8_readNumber_80 (by decide) (fun c74 => False.elim (by revert c74; decide)) (fun c74 => ?_)
        refine lv_aload_n hx hb dX8_readNumber_83 rfl (lv_at hl 2 rfl) ?_
        refine lv_aload_n hx hb dX8_readNumber_84 rfl (lv_at hl 2 rfl) ?_
        refine va_get (D := D) (ci := 8) (v := .int r63.2.2.2.2.1) (C := RX8) (T := TX8) (N := 48) hx hb hts layX8 hown hK hP 0 rfl rfl 9 (by decide) (hts _ (inA q987)) (fun _ h9 => h9) rfl dX8_readNumber_85 ?_
        obtain ⟨r75, hcr75, hM⟩ := ob_use hM
        refine cl_V (As := [.int r63.2.2.2.2.1]) (rest := []) (wM0 ad o_X r63.2 o_N o_T o_U o_O o_E o_Q o_V o_I ++ wMX cI ad o_X) (.int r75 :: []) ⟨hx, hb, hml, hown, hts⟩ (c_Model_at l D cI sd ad o_C r63.2 o_N o_T o_U o_O o_E o_Q o_V o_I o_X r63.2.2.2.2.1 r75 hcr75) (cwV2 hts q1159 mvX8_at rfl rfl ⟨(Nat.le_of_ble_eq_true rfl), (Nat.le_of_ble_eq_true rfl)⟩) hK hE hA hP hD hS 0 (T := TX8) (N := 48) (ci := 8) rfl rfl [0, 1] rfl (by decide) rfl rfl rfl rfl rfl rfl hl.1 (Nat.le_of_ble_eq_true rfl) dX8_readNumber_88 ⟨Nat.zero_le _, Nat.zero_le _⟩ (fun H locs hP hD hS => ?_)
        refine lv_bipush (v := 35) hx hb dX8_readNumber_91 (by decide) ?_
        refine lv_icmp_ne (tgt := 163) hx hb dX8_readNumber_93 (by decide) (fun c76 => ?_) (fun c76 => ?_)
        · replace hM := if_f c76 hM
          refine lv_iload hx hb dX8_readNumber_163 (lv_at hl 0 rfl) ?_
          refine lv_if_eq (tgt := 187) hx hb dX8_readNumber_165 (by decide) (fun c77 => False.elim (by revert c77; decide)) (fun c77 => ?_)
          refine lv_aload_n hx hb dX8_readNumber_168 rfl (lv_at hl 2 rfl) ?_
          refine lv_aload_n hx hb dX8_readNumber_169 rfl (lv_at hl 2 rfl) ?_
          refine va_get (D := D) (ci := 8) (v := .int r63.2.2.2.2.1) (C := RX8) (T := TX8) (N := 48) hx hb hts layX8 hown hK hP 0 rfl rfl 9 (by decide) (hts _ (inA q987)) (fun _ h9 => h9) rfl dX8_readNumber_170 ?_
          obtain ⟨r78, hcr78, hM⟩ := ob_use hM
          refine cl_V (As := [.int r63.2.2.2.2.1]) (rest := []) (wM0 ad o_X r63.2 o_N o_T o_U o_O o_E o_Q o_V o_I ++ wMX cI ad o_X) (.int r78 :: []) ⟨hx, hb, hml, hown, hts⟩ (c_Model_goesOn l D cI sd ad o_C r63.2 o_N o_T o_U o_O o_E o_Q o_V o_I o_X r63.2.2.2.2.1 r78 hcr78) (cwV2 hts q1195 mvX8_goesOn rfl rfl ⟨(Nat.le_of_ble_eq_true rfl), (Nat.le_of_ble_eq_true rfl)⟩) hK hE hA hP hD hS 0 (T := TX8) (N := 48) (ci := 8) rfl rfl [0, 1] rfl (by decide) rfl rfl rfl rfl rfl rfl hl.1 (Nat.le_of_ble_eq_true rfl) dX8_readNumber_173 ⟨Nat.zero_le _, Nat.zero_le _⟩ (fun H locs hP hD hS => ?_)
          refine lv_if_ne (tgt := 187) hx hb dX8_readNumber_176 (by decide) (fun c79 => ?_) (fun c79 => ?_)
          · replace hM := if_f c79 hM
            refine lv_aload_n hx hb dX8_readNumber_187 rfl (lv_at hl 2 rfl) ?_
            refine lv_iconst (v := 4) hx hb dX8_readNumber_188 (by decide) ?_
            refine lv_aload_n hx hb dX8_readNumber_189 rfl (lv_at hl 2 rfl) ?_
            refine va_get (D := D) (ci := 8) (v := .int r63.2.1) (C := RX8) (T := TX8) (N := 48) hx hb hts layX8 hown hK hP 0 rfl rfl 6 (by decide) (hts _ (inA q984)) (fun _ h9 => h9) rfl dX8_readNumber_190 ?_
            obtain ⟨r80, hcr80, hM⟩ := ob_use hM
            refine cl_V (As := [.int 4, .int r63.2.1]) (rest := []) (wM0 ad o_X r80 o_N o_T o_U o_O o_E o_Q o_V o_I ++ wMX cI ad o_X) [] ⟨hx, hb, hml, hown, hts⟩ (c_Model_fail l D cI sd ad o_C o_X o_N o_T o_U o_O o_E o_Q o_V o_I r63.2 4 r63.2.1 r80 hcr80) (cwV2 hts q1163 mvX8_fail rfl rfl ⟨(Nat.le_of_ble_eq_true rfl), (Nat.le_of_ble_eq_true rfl)⟩) hK hE hA hP hD hS 0 (T := TX8) (N := 48) (ci := 8) rfl rfl [0] rfl (by decide) rfl rfl rfl rfl rfl rfl hl.1 (Nat.le_of_ble_eq_true rfl) dX8_readNumber_193 ⟨Nat.zero_le _, Nat.zero_le _⟩ (fun H locs hP hD hS => ?_)
            cases hM
            exact rt_v hx hb hr hlk hP hD hS rfl dX8_readNumber_196
          · replace hM := if_t c79 hM
            refine lv_lload_n hx hb dX8_readNumber_179 rfl (lv_at hl 1 rfl) ?_
            refine lv_ldc2 (v := 2147483647) hx hb hown (hts _ (inA q1202)) dX8_readNumber_180 ?_
            refine W.lcmp hx hb dX8_readNumber_183 ?_
            refine lv_if_le (tgt := 197) hx hb dX8_readNumber_184 (by decide) (fun c81 => ?_) (fun c81 => ?_)
            · replace hM := if_t c81 hM
              refine lv_aload_n hx hb dX8_readNumber_197 rfl (lv_at hl 2 rfl) ?_
              refine lv_bipush (v := 81) hx hb dX8_readNumber_198 (by decide) ?_
              refine va_put (D := D) (ci := 8) (v := .int 81) (ty := .int) (C := RX8) (T := TX8) (N := 48) hx hb hts layX8 tyX8 tyX8_ok nmX8 hown hK hP hD hS 0 rfl rfl 7 (by decide) (hts _ (inA q985)) (fun _ h9 => h9) rfl (by decide +kernel) rfl rfl (Nat.le_of_ble_eq_true rfl) dX8_readNumber_200 (fun H locs hP hD hS => ?_)
              have hP : va_P D vwCl (wM0 ad o_X (r63.2.1, 81, r63.2.2.2) o_N o_T o_U o_O o_E o_Q o_V o_I ++ wMX cI ad o_X) H := hP
              have hD : va_D A (wM0 ad o_X (r63.2.1, 81, r63.2.2.2) o_N o_T o_U o_O o_E o_Q o_V o_I ++ wMX cI ad o_X) := hD
              refine lv_aload_n hx hb dX8_readNumber_203 rfl (lv_at hl 2 rfl) ?_
              refine lv_lload_n hx hb dX8_readNumber_204 rfl (lv_at hl 1 rfl) ?_
              refine lv_l2i hx hb dX8_readNumber_205 rfl ?_
              refine va_put (D := D) (ci := 8) (v := .int r63.1.toInt32) (ty := .int) (C := RX8) (T := TX8) (N := 48) hx hb hts layX8 tyX8 tyX8_ok nmX8 hown hK hP hD hS 0 rfl rfl 8 (by decide) (hts _ (inA q986)) (fun _ h9 => h9) rfl (by decide +kernel) rfl rfl (Nat.le_of_ble_eq_true rfl) dX8_readNumber_206 (fun H locs hP hD hS => ?_)
              have hP : va_P D vwCl (wM0 ad o_X (r63.2.1, 81, r63.1.toInt32, r63.2.2.2.2) o_N o_T o_U o_O o_E o_Q o_V o_I ++ wMX cI ad o_X) H := hP
              have hD : va_D A (wM0 ad o_X (r63.2.1, 81, r63.1.toInt32, r63.2.2.2.2) o_N o_T o_U o_O o_E o_Q o_V o_I ++ wMX cI ad o_X) := hD
              cases hM
              exact rt_v hx hb hr hlk hP hD hS rfl dX8_readNumber_209
            · replace hM := if_f c81 hM
              refine lv_aload_n hx hb dX8_readNumber_187 rfl (lv_at hl 2 rfl) ?_
              refine lv_iconst (v := 4) hx hb dX8_readNumber_188 (by decide) ?_
              refine lv_aload_n hx hb dX8_readNumber_189 rfl (lv_at hl 2 rfl) ?_
              refine va_get (D := D) (ci := 8) (v := .int r63.2.1) (C := RX8) (T := TX8) (N := 48) hx hb hts layX8 hown hK hP 0 rfl rfl 6 (by decide) (hts _ (inA q984)) (fun _ h9 => h9) rfl dX8_readNumber_190 ?_
              obtain ⟨r82, hcr82, hM⟩ := ob_use hM
              refine cl_V (As := [.int 4, .int r63.2.1]) (rest := []) (wM0 ad o_X r82 o_N o_T o_U o_O o_E o_Q o_V o_I ++ wMX cI ad o_X) [] ⟨hx, hb, hml, hown, hts⟩ (c_Model_fail l D cI sd ad o_C o_X o_N o_T o_U o_O o_E o_Q o_V o_I r63.2 4 r63.2.1 r82 hcr82) (cwV2 hts q1163 mvX8_fail rfl rfl ⟨(Nat.le_of_ble_eq_true rfl), (Nat.le_of_ble_eq_true rfl)⟩) hK hE hA hP hD hS 0 (T := TX8) (N := 48) (ci := 8) rfl rfl [0] rfl (by decide) rfl rfl rfl rfl rfl rfl hl.1 (Nat.le_of_ble_eq_true rfl) dX8_readNumber_193 ⟨Nat.zero_le _, Nat.zero_le _⟩ (fun H locs hP hD hS => ?_)
              cases hM
              exact rt_v hx hb hr hlk hP hD hS rfl dX8_readNumber_196
        · replace hM := if_t c76 hM
          refine lv_aload_n hx hb dX8_readNumber_96 rfl (lv_at hl 2 rfl) ?_
          refine lv_dup hx hb dX8_readNumber_97 rfl ?_
          refine va_get (D := D) (ci := 8) (v := .int r63.2.2.2.2.1) (C := RX8) (T := TX8) (N := 48) hx hb hts layX8 hown hK hP 0 rfl rfl 9 (by decide) (hts _ (inA q987)) (fun _ h9 => h9) rfl dX8_readNumber_98 ?_
          refine lv_iconst (v := 1) hx hb dX8_readNumber_101 (by decide) ?_
          refine lv_iadd hx hb dX8_readNumber_102 ?_
          refine va_put (D := D) (ci := 8) (v := .int (r63.2.2.2.2.1 + 1)) (ty := .int) (C := RX8) (T := TX8) (N := 48) hx hb hts layX8 tyX8 tyX8_ok nmX8 hown hK hP hD hS 0 rfl rfl 9 (by decide) (hts _ (inA q987)) (fun _ h9 => h9) rfl (by decide +kernel) rfl rfl (Nat.le_of_ble_eq_true rfl) dX8_readNumber_103 (fun H locs hP hD hS => ?_)
          have hP : va_P D vwCl (wM0 ad o_X (r63.2.1, r63.2.2.1, r63.2.2.2.1, r63.2.2.2.2.1 + 1, r63.2.2.2.2.2) o_N o_T o_U o_O o_E o_Q o_V o_I ++ wMX cI ad o_X) H := hP
          have hD : va_D A (wM0 ad o_X (r63.2.1, r63.2.2.1, r63.2.2.2.1, r63.2.2.2.2.1 + 1, r63.2.2.2.2.2) o_N o_T o_U o_O o_E o_Q o_V o_I ++ wMX cI ad o_X) := hD
          refine lv_lload_n hx hb dX8_readNumber_106 rfl (lv_at hl 1 rfl) ?_
          refine lv_ldc2 (v := 16) hx hb hown (hts _ (inA q1193)) dX8_readNumber_107 ?_
          refine W.lcmp hx hb dX8_readNumber_110 ?_
          refine lv_if_eq (tgt := 122) hx hb dX8_readNumber_111 (by decide) (fun c83 => ?_) (fun c83 => ?_)
          · replace hM := if_t c83 hM
            refine lv_iconst (v := 1) hx hb dX8_readNumber_122 (by decide) ?_
            refine lv_goto (tgt := 127) hx hb dX8_readNumber_123 (by decide) ?_
            refine lv_istore (lv' := [(4, .int 1), (2, .long r63.1), (0, .ref (ad 100)), (1, .int a1)]) hx hb dX8_readNumber_127 hl (by decide) rfl (fun ls hl => ?_)
            refine lv_iload hx hb dX8_readNumber_129 (lv_at hl 0 rfl) ?_
            refine lv_if_eq (tgt := 143) hx hb dX8_readNumber_131 (by decide) (fun c84 => False.elim (by revert c84; decide)) (fun c84 => ?_)
            refine lv_aload_n hx hb dX8_readNumber_134 rfl (lv_at hl 2 rfl) ?_
            refine lv_lload_n hx hb dX8_readNumber_135 rfl (lv_at hl 1 rfl) ?_
            refine lv_l2i hx hb dX8_readNumber_136 rfl ?_
            obtain ⟨r85, hcr85, hM⟩ := ob_use hM
            refine cl_V (As := [.int r63.1.toInt32]) (rest := []) (wM0 ad o_X r85.2 o_N o_T o_U o_O o_E o_Q o_V o_I ++ wMX cI ad o_X) (.long r85.1 :: []) ⟨hx, hb, hml, hown, hts⟩ (c_Model_digits l D cI sd ad o_C o_N o_T o_U o_O o_E o_Q o_V o_I o_X (r63.2.1, r63.2.2.1, r63.2.2.2.1, r63.2.2.2.2.1 + 1, r63.2.2.2.2.2) r63.1.toInt32 r85 hcr85) (cwV2 hts q1171 mvX8_digits rfl rfl ⟨(Nat.le_of_ble_eq_true rfl), (Nat.le_of_ble_eq_true rfl)⟩) hK hE hA hP hD hS 0 (T := TX8) (N := 48) (ci := 8) rfl rfl [0, 1] rfl (by decide) rfl rfl rfl rfl rfl rfl hl.1 (Nat.le_of_ble_eq_true rfl) dX8_readNumber_137 ⟨Nat.zero_le _, Nat.zero_le _⟩ (fun H locs hP hD hS => ?_)
            refine lv_goto (tgt := 144) hx hb dX8_readNumber_140 (by decide) ?_
            refine lv_lstore_n (lv' := [(2, .long r85.1), (4, .int 1), (0, .ref (ad 100)), (1, .int a1)]) hx hb dX8_readNumber_144 rfl hl (by decide) rfl (fun ls hl => ?_)
            refine lv_iload hx hb dX8_readNumber_145 (lv_at hl 1 rfl) ?_
            refine lv_if_eq (tgt := 160) hx hb dX8_readNumber_147 (by decide) (fun c86 => False.elim (by revert c86; decide)) (fun c86 => ?_)
            refine lv_lload_n hx hb dX8_readNumber_150 rfl (lv_at hl 0 rfl) ?_
            refine lv_lconst (v := 0) hx hb dX8_readNumber_151 (by decide) ?_
            refine W.lcmp hx hb dX8_readNumber_152 ?_
            refine lv_if_lt (tgt := 160) hx hb dX8_readNumber_153 (by decide) (fun c87 => ?_) (fun c87 => ?_)
            · replace hM := if_t c87 hM
              refine lv_iconst (v := 0) hx hb dX8_readNumber_160 (by decide) ?_
              refine lv_istore (lv' := [(4, .int 0), (2, .long r85.1), (0, .ref (ad 100)), (1, .int a1)]) hx hb dX8_readNumber_161 hl (by decide) rfl (fun ls hl => ?_)
              refine lv_iload hx hb dX8_readNumber_163 (lv_at hl 0 rfl) ?_
              refine lv_if_eq (tgt := 187) hx hb dX8_readNumber_165 (by decide) (fun c88 => ?_) (fun c88 => False.elim (by revert c88; decide))
              refine lv_aload_n hx hb dX8_readNumber_187 rfl (lv_at hl 2 rfl) ?_
              refine lv_iconst (v := 4) hx hb dX8_readNumber_188 (by decide) ?_
              refine lv_aload_n hx hb dX8_readNumber_189 rfl (lv_at hl 2 rfl) ?_
              refine va_get (D := D) (ci := 8) (v := .int r85.2.1) (C := RX8) (T := TX8) (N := 48) hx hb hts layX8 hown hK hP 0 rfl rfl 6 (by decide) (hts _ (inA q984)) (fun _ h9 => h9) rfl dX8_readNumber_190 ?_
              obtain ⟨r89, hcr89, hM⟩ := ob_use hM
              refine cl_V (As := [.int 4, .int r85.2.1]) (rest := []) (wM0 ad o_X r89 o_N o_T o_U o_O o_E o_Q o_V o_I ++ wMX cI ad o_X) [] ⟨hx, hb, hml, hown, hts⟩ (c_Model_fail l D cI sd ad o_C o_X o_N o_T o_U o_O o_E o_Q o_V o_I r85.2 4 r85.2.1 r89 hcr89) (cwV2 hts q1163 mvX8_fail rfl rfl ⟨(Nat.le_of_ble_eq_true rfl), (Nat.le_of_ble_eq_true rfl)⟩) hK hE hA hP hD hS 0 (T := TX8) (N := 48) (ci := 8) rfl rfl [0] rfl (by decide) rfl rfl rfl rfl rfl rfl hl.1 (Nat.le_of_ble_eq_true rfl) dX8_readNumber_193 ⟨Nat.zero_le _, Nat.zero_le _⟩ (fun H locs hP hD hS => ?_)
              cases hM
              exact rt_v hx hb hr hlk hP hD hS rfl dX8_readNumber_196
            · replace hM := if_f c87 hM
              refine lv_iconst (v := 1) hx hb dX8_readNumber_156 (by decide) ?_
              refine lv_goto (tgt := 161) hx hb dX8_readNumber_157 (by decide) ?_
              refine lv_istore (lv' := [(4, .int 1), (2, .long r85.1), (0, .ref (ad 100)), (1, .int a1)]) hx hb dX8_readNumber_161 hl (by decide) rfl (fun ls hl => ?_)
              refine lv_iload hx hb dX8_readNumber_163 (lv_at hl 0 rfl) ?_
              refine lv_if_eq (tgt := 187) hx hb dX8_readNumber_165 (by decide) (fun c90 => False.elim (by revert c90; decide)) (fun c90 => ?_)
              refine lv_aload_n hx hb dX8_readNumber_168 rfl (lv_at hl 2 rfl) ?_
              refine lv_aload_n hx hb dX8_readNumber_169 rfl (lv_at hl 2 rfl) ?_
              refine va_get (D := D) (ci := 8) (v := .int r85.2.2.2.2.1) (C := RX8) (T := TX8) (N := 48) hx hb hts layX8 hown hK hP 0 rfl rfl 9 (by decide) (hts _ (inA q987)) (fun _ h9 => h9) rfl dX8_readNumber_170 ?_
              obtain ⟨r91, hcr91, hM⟩ := ob_use hM
              refine cl_V (As := [.int r85.2.2.2.2.1]) (rest := []) (wM0 ad o_X r85.2 o_N o_T o_U o_O o_E o_Q o_V o_I ++ wMX cI ad o_X) (.int r91 :: []) ⟨hx, hb, hml, hown, hts⟩ (c_Model_goesOn l D cI sd ad o_C r85.2 o_N o_T o_U o_O o_E o_Q o_V o_I o_X r85.2.2.2.2.1 r91 hcr91) (cwV2 hts q1195 mvX8_goesOn rfl rfl ⟨(Nat.le_of_ble_eq_true rfl), (Nat.le_of_ble_eq_true rfl)⟩) hK hE hA hP hD hS 0 (T := TX8) (N := 48) (ci := 8) rfl rfl [0, 1] rfl (by decide) rfl rfl rfl rfl rfl rfl hl.1 (Nat.le_of_ble_eq_true rfl) dX8_readNumber_173 ⟨Nat.zero_le _, Nat.zero_le _⟩ (fun H locs hP hD hS => ?_)
              refine lv_if_ne (tgt := 187) hx hb dX8_readNumber_176 (by decide) (fun c92 => ?_) (fun c92 => ?_)
              · replace hM := if_f c92 hM
                refine lv_aload_n hx hb dX8_readNumber_187 rfl (lv_at hl 2 rfl) ?_
                refine lv_iconst (v := 4) hx hb dX8_readNumber_188 (by decide) ?_
                refine lv_aload_n hx hb dX8_readNumber_189 rfl (lv_at hl 2 rfl) ?_
                refine va_get (D := D) (ci := 8) (v := .int r85.2.1) (C := RX8) (T := TX8) (N := 48) hx hb hts layX8 hown hK hP 0 rfl rfl 6 (by decide) (hts _ (inA q984)) (fun _ h9 => h9) rfl dX8_readNumber_190 ?_
                obtain ⟨r93, hcr93, hM⟩ := ob_use hM
                refine cl_V (As := [.int 4, .int r85.2.1]) (rest := []) (wM0 ad o_X r93 o_N o_T o_U o_O o_E o_Q o_V o_I ++ wMX cI ad o_X) [] ⟨hx, hb, hml, hown, hts⟩ (c_Model_fail l D cI sd ad o_C o_X o_N o_T o_U o_O o_E o_Q o_V o_I r85.2 4 r85.2.1 r93 hcr93) (cwV2 hts q1163 mvX8_fail rfl rfl ⟨(Nat.le_of_ble_eq_true rfl), (Nat.le_of_ble_eq_true rfl)⟩) hK hE hA hP hD hS 0 (T := TX8) (N := 48) (ci := 8) rfl rfl [0] rfl (by decide) rfl rfl rfl rfl rfl rfl hl.1 (Nat.le_of_ble_eq_true rfl) dX8_readNumber_193 ⟨Nat.zero_le _, Nat.zero_le _⟩ (fun H locs hP hD hS => ?_)
                cases hM
                exact rt_v hx hb hr hlk hP hD hS rfl dX8_readNumber_196
              · replace hM := if_t c92 hM
                refine lv_lload_n hx hb dX8_readNumber_179 rfl (lv_at hl 1 rfl) ?_
                refine lv_ldc2 (v := 2147483647) hx hb hown (hts _ (inA q1202)) dX8_readNumber_180 ?_
                refine W.lcmp hx hb dX8_readNumber_183 ?_
                refine lv_if_le (tgt := 197) hx hb dX8_readNumber_184 (by decide) (fun c94 => ?_) (fun c94 => ?_)
                · replace hM := if_t c94 hM
                  refine lv_aload_n hx hb dX8_readNumber_197 rfl (lv_at hl 2 rfl) ?_
                  refine lv_bipush (v := 81) hx hb dX8_readNumber_198 (by decide) ?_
                  refine va_put (D := D) (ci := 8) (v := .int 81) (ty := .int) (C := RX8) (T := TX8) (N := 48) hx hb hts layX8 tyX8 tyX8_ok nmX8 hown hK hP hD hS 0 rfl rfl 7 (by decide) (hts _ (inA q985)) (fun _ h9 => h9) rfl (by decide +kernel) rfl rfl (Nat.le_of_ble_eq_true rfl) dX8_readNumber_200 (fun H locs hP hD hS => ?_)
                  have hP : va_P D vwCl (wM0 ad o_X (r85.2.1, 81, r85.2.2.2) o_N o_T o_U o_O o_E o_Q o_V o_I ++ wMX cI ad o_X) H := hP
                  have hD : va_D A (wM0 ad o_X (r85.2.1, 81, r85.2.2.2) o_N o_T o_U o_O o_E o_Q o_V o_I ++ wMX cI ad o_X) := hD
                  refine lv_aload_n hx hb dX8_readNumber_203 rfl (lv_at hl 2 rfl) ?_
                  refine lv_lload_n hx hb dX8_readNumber_204 rfl (lv_at hl 1 rfl) ?_
                  refine lv_l2i hx hb dX8_readNumber_205 rfl ?_
                  refine va_put (D := D) (ci := 8) (v := .int r85.1.toInt32) (ty := .int) (C := RX8) (T := TX8) (N := 48) hx hb hts layX8 tyX8 tyX8_ok nmX8 hown hK hP hD hS 0 rfl rfl 8 (by decide) (hts _ (inA q986)) (fun _ h9 => h9) rfl (by decide +kernel) rfl rfl (Nat.le_of_ble_eq_true rfl) dX8_readNumber_206 (fun H locs hP hD hS => ?_)
                  have hP : va_P D vwCl (wM0 ad o_X (r85.2.1, 81, r85.1.toInt32, r85.2.2.2.2) o_N o_T o_U o_O o_E o_Q o_V o_I ++ wMX cI ad o_X) H := hP
                  have hD : va_D A (wM0 ad o_X (r85.2.1, 81, r85.1.toInt32, r85.2.2.2.2) o_N o_T o_U o_O o_E o_Q o_V o_I ++ wMX cI ad o_X) := hD
                  cases hM
                  exact rt_v hx hb hr hlk hP hD hS rfl dX8_readNumber_209
                · replace hM := if_f c94 hM
                  refine lv_aload_n hx hb dX8_readNumber_187 rfl (lv_at hl 2 rfl) ?_
                  refine lv_iconst (v := 4) hx hb dX8_readNumber_188 (by decide) ?_
                  refine lv_aload_n hx hb dX8_readNumber_189 rfl (lv_at hl 2 rfl) ?_
                  refine va_get (D := D) (ci := 8) (v := .int r85.2.1) (C := RX8) (T := TX8) (N := 48) hx hb hts layX8 hown hK hP 0 rfl rfl 6 (by decide) (hts _ (inA q984)) (fun _ h9 => h9) rfl dX8_readNumber_190 ?_
                  obtain ⟨r95, hcr95, hM⟩ := ob_use hM
                  refine cl_V (As := [.int 4, .int r85.2.1]) (rest := []) (wM0 ad o_X r95 o_N o_T o_U o_O o_E o_Q o_V o_I ++ wMX cI ad o_X) [] ⟨hx, hb, hml, hown, hts⟩ (c_Model_fail l D cI sd ad o_C o_X o_N o_T o_U o_O o_E o_Q o_V o_I r85.2 4 r85.2.1 r95 hcr95) (cwV2 hts q1163 mvX8_fail rfl rfl ⟨(Nat.le_of_ble_eq_true rfl), (Nat.le_of_ble_eq_true rfl)⟩) hK hE hA hP hD hS 0 (T := TX8) (N := 48) (ci := 8) rfl rfl [0] rfl (by decide) rfl rfl rfl rfl rfl rfl hl.1 (Nat.le_of_ble_eq_true rfl) dX8_readNumber_193 ⟨Nat.zero_le _, Nat.zero_le _⟩ (fun H locs hP hD hS => ?_)
                  cases hM
                  exact rt_v hx hb hr hlk hP hD hS rfl dX8_readNumber_196
          · replace hM := if_f c83 hM
            refine lv_lload_n hx hb dX8_readNumber_114 rfl (lv_at hl 1 rfl) ?_
            refine lv_ldc2 (v := 2) hx hb hown (hts _ (inA q1194)) dX8_readNumber_115 ?_
            refine W.lcmp hx hb dX8_readNumber_118 ?_
            refine lv_if_ne (tgt := 126) hx hb dX8_readNumber_119 (by decide) (fun c96 => ?_) (fun c96 => ?_)
            · replace hM := if_f c96 hM
              refine lv_iconst (v := 0) hx hb dX8_readNumber_126 (by decide) ?_
              refine lv_istore (lv' := [(4, .int 0), (2, .long r63.1), (0, .ref (ad 100)), (1, .int a1)]) hx hb dX8_readNumber_127 hl (by decide) rfl (fun ls hl => ?_)
              refine lv_iload hx hb dX8_readNumber_129 (lv_at hl 0 rfl) ?_
              refine lv_if_eq (tgt := 143) hx hb dX8_readNumber_131 (by decide) (fun c97 => ?_) (fun c97 => False.elim (by revert c97; decide))
              refine lv_lload_n hx hb dX8_readNumber_143 rfl (lv_at hl 1 rfl) ?_
              refine lv_lstore_n (lv' := [(2, .long r63.1), (4, .int 0), (0, .ref (ad 100)), (1, .int a1)]) hx hb dX8_readNumber_144 rfl hl (by decide) rfl (fun ls hl => ?_)
              refine lv_iload hx hb dX8_readNumber_145 (lv_at hl 1 rfl) ?_
              refine lv_if_eq (tgt := 160) hx hb dX8_readNumber_147 (by decide) (fun c98 => ?_) (fun c98 => False.elim (by revert c98; decide))
              refine lv_iconst (v := 0) hx hb dX8_readNumber_160 (by decide) ?_
              refine lv_istore (lv' := [(4, .int 0), (2, .long r63.1), (0, .ref (ad 100)), (1, .int a1)]) hx hb dX8_readNumber_161 hl (by decide) rfl (fun ls hl => ?_)
              refine lv_iload hx hb dX8_readNumber_163 (lv_at hl 0 rfl) ?_
              refine lv_if_eq (tgt := 187) hx hb dX8_readNumber_165 (by decide) (fun c99 => ?_) (fun c99 => False.elim (by revert c99; decide))
              refine lv_aload_n hx hb dX8_readNumber_187 rfl (lv_at hl 2 rfl) ?_
              refine lv_iconst (v := 4) hx hb dX8_readNumber_188 (by decide) ?_
              refine lv_aload_n hx hb dX8_readNumber_189 rfl (lv_at hl 2 rfl) ?_
              refine va_get (D := D) (ci := 8) (v := .int r63.2.1) (C := RX8) (T := TX8) (N := 48) hx hb hts layX8 hown hK hP 0 rfl rfl 6 (by decide) (hts _ (inA q984)) (fun _ h9 => h9) rfl dX8_readNumber_190 ?_
              obtain ⟨r100, hcr100, hM⟩ := ob_use hM
              refine cl_V (As := [.int 4, .int r63.2.1]) (rest := []) (wM0 ad o_X r100 o_N o_T o_U o_O o_E o_Q o_V o_I ++ wMX cI ad o_X) [] ⟨hx, hb, hml, hown, hts⟩ (c_Model_fail l D cI sd ad o_C o_X o_N o_T o_U o_O o_E o_Q o_V o_I (r63.2.1, r63.2.2.1, r63.2.2.2.1, r63.2.2.2.2.1 + 1, r63.2.2.2.2.2) 4 r63.2.1 r100 hcr100) (cwV2 hts q1163 mvX8_fail rfl rfl ⟨(Nat.le_of_ble_eq_true rfl), (Nat.le_of_ble_eq_true rfl)⟩) hK hE hA hP hD hS 0 (T := TX8) (N := 48) (ci := 8) rfl rfl [0] rfl (by decide) rfl rfl rfl rfl rfl rfl hl.1 (Nat.le_of_ble_eq_true rfl) dX8_readNumber_193 ⟨Nat.zero_le _, Nat.zero_le _⟩ (fun H locs hP hD hS => ?_)
              cases hM
              exact rt_v hx hb hr hlk hP hD hS rfl dX8_readNumber_196
            · replace hM := if_t c96 hM
              refine lv_iconst (v := 1) hx hb dX8_readNumber_122 (by decide) ?_
              refine lv_goto (tgt := 127) hx hb dX8_readNumber_123 (by decide) ?_
              refine lv_istore (lv' := [(4, .int 1), (2, .long r63.1), (0, .ref (ad 100)), (1, .int a1)]) hx hb dX8_readNumber_127 hl (by decide) rfl (fun ls hl => ?_)
              refine lv_iload hx hb dX8_readNumber_129 (lv_at hl 0 rfl) ?_
              refine lv_if_eq (tgt := 143) hx hb dX8_readNumber_131 (by decide) (fun c101 => False.elim (by revert c101; decide)) (fun c101 => ?_)
              refine lv_aload_n hx hb dX8_readNumber_134 rfl (lv_at hl 2 rfl) ?_
              refine lv_lload_n hx hb dX8_readNumber_135 rfl (lv_at hl 1 rfl) ?_
              refine lv_l2i hx hb dX8_readNumber_136 rfl ?_
              obtain ⟨r102, hcr102, hM⟩ := ob_use hM
              refine cl_V (As := [.int r63.1.toInt32]) (rest := []) (wM0 ad o_X r102.2 o_N o_T o_U o_O o_E o_Q o_V o_I ++ wMX cI ad o_X) (.long r102.1 :: []) ⟨hx, hb, hml, hown, hts⟩ (c_Model_digits l D cI sd ad o_C o_N o_T o_U o_O o_E o_Q o_V o_I o_X (r63.2.1, r63.2.2.1, r63.2.2.2.1, r63.2.2.2.2.1 + 1, r63.2.2.2.2.2) r63.1.toInt32 r102 hcr102) (cwV2 hts q1171 mvX8_digits rfl rfl ⟨(Nat.le_of_ble_eq_true rfl), (Nat.le_of_ble_eq_true rfl)⟩) hK hE hA hP hD hS 0 (T := TX8) (N := 48) (ci := 8) rfl rfl [0, 1] rfl (by decide) rfl rfl rfl rfl rfl rfl hl.1 (Nat.le_of_ble_eq_true rfl) dX8_readNumber_137 ⟨Nat.zero_le _, Nat.zero_le _⟩ (fun H locs hP hD hS => ?_)
              refine lv_goto (tgt := 144) hx hb dX8_readNumber_140 (by decide) ?_
              refine lv_lstore_n (lv' := [(2, .long r102.1), (4, .int 1), (0, .ref (ad 100)), (1, .int a1)]) hx hb dX8_readNumber_144 rfl hl (by decide) rfl (fun ls hl => ?_)
              refine lv_iload hx hb dX8_readNumber_145 (lv_at hl 1 rfl) ?_
              refine lv_if_eq (tgt := 160) hx hb dX8_readNumber_147 (by decide) (fun c103 => False.elim (by revert c103; decide)) (fun c103 => ?_)
              refine lv_lload_n hx hb dX8_readNumber_150 rfl (lv_at hl 0 rfl) ?_
              refine lv_lconst (v := 0) hx hb dX8_readNumber_151 (by decide) ?_
              refine W.lcmp hx hb dX8_readNumber_152 ?_
              refine lv_if_lt (tgt := 160) hx hb dX8_readNumber_153 (by decide) (fun c104 => ?_) (fun c104 => ?_)
              · replace hM := if_t c104 hM
                refine lv_iconst (v := 0) hx hb dX8_readNumber_160 (by decide) ?_
                refine lv_istore (lv' := [(4, .int 0), (2, .long r102.1), (0, .ref (ad 100)), (1, .int a1)]) hx hb dX8_readNumber_161 hl (by decide) rfl (fun ls hl => ?_)
                refine lv_iload hx hb dX8_readNumber_163 (lv_at hl 0 rfl) ?_
                refine lv_if_eq (tgt := 187) hx hb dX8_readNumber_165 (by decide) (fun c105 => ?_) (fun c105 => False.elim (by revert c105; decide))
                refine lv_aload_n hx hb dX8_readNumber_187 rfl (lv_at hl 2 rfl) ?_
                refine lv_iconst (v := 4) hx hb dX8_readNumber_188 (by decide) ?_
                refine lv_aload_n hx hb dX8_readNumber_189 rfl (lv_at hl 2 rfl) ?_
                refine va_get (D := D) (ci := 8) (v := .int r102.2.1) (C := RX8) (T := TX8) (N := 48) hx hb hts layX8 hown hK hP 0 rfl rfl 6 (by decide) (hts _ (inA q984)) (fun _ h9 => h9) rfl dX8_readNumber_190 ?_
                obtain ⟨r106, hcr106, hM⟩ := ob_use hM
                refine cl_V (As := [.int 4, .int r102.2.1]) (rest := []) (wM0 ad o_X r106 o_N o_T o_U o_O o_E o_Q o_V o_I ++ wMX cI ad o_X) [] ⟨hx, hb, hml, hown, hts⟩ (c_Model_fail l D cI sd ad o_C o_X o_N o_T o_U o_O o_E o_Q o_V o_I r102.2 4 r102.2.1 r106 hcr106) (cwV2 hts q1163 mvX8_fail rfl rfl ⟨(Nat.le_of_ble_eq_true rfl), (Nat.le_of_ble_eq_true rfl)⟩) hK hE hA hP hD hS 0 (T := TX8) (N := 48) (ci := 8) rfl rfl [0] rfl (by decide) rfl rfl rfl rfl rfl rfl hl.1 (Nat.le_of_ble_eq_true rfl) dX8_readNumber_193 ⟨Nat.zero_le _, Nat.zero_le _⟩ (fun H locs hP hD hS => ?_)
                cases hM
                exact rt_v hx hb hr hlk hP hD hS rfl dX8_readNumber_196
              · replace hM := if_f c104 hM
                refine lv_iconst (v := 1) hx hb dX8_readNumber_156 (by decide) ?_
                refine lv_goto (tgt := 161) hx hb dX8_readNumber_157 (by decide) ?_
                refine lv_istore (lv' := [(4, .int 1), (2, .long r102.1), (0, .ref (ad 100)), (1, .int a1)]) hx hb dX8_readNumber_161 hl (by decide) rfl (fun ls hl => ?_)
                refine lv_iload hx hb dX8_readNumber_163 (lv_at hl 0 rfl) ?_
                refine lv_if_eq (tgt := 187) hx hb dX8_readNumber_165 (by decide) (fun c107 => False.elim (by revert c107; decide)) (fun c107 => ?_)
                refine lv_aload_n hx hb dX8_readNumber_168 rfl (lv_at hl 2 rfl) ?_
                refine lv_aload_n hx hb dX8_readNumber_169 rfl (lv_at hl 2 rfl) ?_
                refine va_get (D := D) (ci := 8) (v := .int r102.2.2.2.2.1) (C := RX8) (T := TX8) (N := 48) hx hb hts layX8 hown hK hP 0 rfl rfl 9 (by decide) (hts _ (inA q987)) (fun _ h9 => h9) rfl dX8_readNumber_170 ?_
                obtain ⟨r108, hcr108, hM⟩ := ob_use hM
                refine cl_V (As := [.int r102.2.2.2.2.1]) (rest := []) (wM0 ad o_X r102.2 o_N o_T o_U o_O o_E o_Q o_V o_I ++ wMX cI ad o_X) (.int r108 :: []) ⟨hx, hb, hml, hown, hts⟩ (c_Model_goesOn l D cI sd ad o_C r102.2 o_N o_T o_U o_O o_E o_Q o_V o_I o_X r102.2.2.2.2.1 r108 hcr108) (cwV2 hts q1195 mvX8_goesOn rfl rfl ⟨(Nat.le_of_ble_eq_true rfl), (Nat.le_of_ble_eq_true rfl)⟩) hK hE hA hP hD hS 0 (T := TX8) (N := 48) (ci := 8) rfl rfl [0, 1] rfl (by decide) rfl rfl rfl rfl rfl rfl hl.1 (Nat.le_of_ble_eq_true rfl) dX8_readNumber_173 ⟨Nat.zero_le _, Nat.zero_le _⟩ (fun H locs hP hD hS => ?_)
                refine lv_if_ne (tgt := 187) hx hb dX8_readNumber_176 (by decide) (fun c109 => ?_) (fun c109 => ?_)
                · replace hM := if_f c109 hM
                  refine lv_aload_n hx hb dX8_readNumber_187 rfl (lv_at hl 2 rfl) ?_
                  refine lv_iconst (v := 4) hx hb dX8_readNumber_188 (by decide) ?_
                  refine lv_aload_n hx hb dX8_readNumber_189 rfl (lv_at hl 2 rfl) ?_
                  refine va_get (D := D) (ci := 8) (v := .int r102.2.1) (C := RX8) (T := TX8) (N := 48) hx hb hts layX8 hown hK hP 0 rfl rfl 6 (by decide) (hts _ (inA q984)) (fun _ h9 => h9) rfl dX8_readNumber_190 ?_
                  obtain ⟨r110, hcr110, hM⟩ := ob_use hM
                  refine cl_V (As := [.int 4, .int r102.2.1]) (rest := []) (wM0 ad o_X r110 o_N o_T o_U o_O o_E o_Q o_V o_I ++ wMX cI ad o_X) [] ⟨hx, hb, hml, hown, hts⟩ (c_Model_fail l D cI sd ad o_C o_X o_N o_T o_U o_O o_E o_Q o_V o_I r102.2 4 r102.2.1 r110 hcr110) (cwV2 hts q1163 mvX8_fail rfl rfl ⟨(Nat.le_of_ble_eq_true rfl), (Nat.le_of_ble_eq_true rfl)⟩) hK hE hA hP hD hS 0 (T := TX8) (N := 48) (ci := 8) rfl rfl [0] rfl (by decide) rfl rfl rfl rfl rfl rfl hl.1 (Nat.le_of_ble_eq_true rfl) dX8_readNumber_193 ⟨Nat.zero_le _, Nat.zero_le _⟩ (fun H locs hP hD hS => ?_)
                  cases hM
                  exact rt_v hx hb hr hlk hP hD hS rfl dX8_readNumber_196
                · replace hM := if_t c109 hM
                  refine lv_lload_n hx hb dX8_readNumber_179 rfl (lv_at hl 1 rfl) ?_
                  refine lv_ldc2 (v := 2147483647) hx hb hown (hts _ (inA q1202)) dX8_readNumber_180 ?_
                  refine W.lcmp hx hb dX8_readNumber_183 ?_
                  refine lv_if_le (tgt := 197) hx hb dX8_readNumber_184 (by decide) (fun c111 => ?_) (fun c111 => ?_)
                  · replace hM := if_t c111 hM
                    refine lv_aload_n hx hb dX8_readNumber_197 rfl (lv_at hl 2 rfl) ?_
                    refine lv_bipush (v := 81) hx hb dX8_readNumber_198 (by decide) ?_
                    refine va_put (D := D) (ci := 8) (v := .int 81) (ty := .int) (C := RX8) (T := TX8) (N := 48) hx hb hts layX8 tyX8 tyX8_ok nmX8 hown hK hP hD hS 0 rfl rfl 7 (by decide) (hts _ (inA q985)) (fun _ h9 => h9) rfl (by decide +kernel) rfl rfl (Nat.le_of_ble_eq_true rfl) dX8_readNumber_200 (fun H locs hP hD hS => ?_)
                    have hP : va_P D vwCl (wM0 ad o_X (r102.2.1, 81, r102.2.2.2) o_N o_T o_U o_O o_E o_Q o_V o_I ++ wMX cI ad o_X) H := hP
                    have hD : va_D A (wM0 ad o_X (r102.2.1, 81, r102.2.2.2) o_N o_T o_U o_O o_E o_Q o_V o_I ++ wMX cI ad o_X) := hD
                    refine lv_aload_n hx hb dX8_readNumber_203 rfl (lv_at hl 2 rfl) ?_
                    refine lv_lload_n hx hb dX8_readNumber_204 rfl (lv_at hl 1 rfl) ?_
                    refine lv_l2i hx hb dX8_readNumber_205 rfl ?_
                    refine va_put (D := D) (ci := 8) (v := .int r102.1.toInt32) (ty := .int) (C := RX8) (T := TX8) (N := 48) hx hb hts layX8 tyX8 tyX8_ok nmX8 hown hK hP hD hS 0 rfl rfl 8 (by decide) (hts _ (inA q986)) (fun _ h9 => h9) rfl (by decide +kernel) rfl rfl (Nat.le_of_ble_eq_true rfl) dX8_readNumber_206 (fun H locs hP hD hS => ?_)
                    have hP : va_P D vwCl (wM0 ad o_X (r102.2.1, 81, r102.1.toInt32, r102.2.2.2.2) o_N o_T o_U o_O o_E o_Q o_V o_I ++ wMX cI ad o_X) H := hP
                    have hD : va_D A (wM0 ad o_X (r102.2.1, 81, r102.1.toInt32, r102.2.2.2.2) o_N o_T o_U o_O o_E o_Q o_V o_I ++ wMX cI ad o_X) := hD
                    cases hM
                    exact rt_v hx hb hr hlk hP hD hS rfl dX8_readNumber_209
                  · replace hM := if_f c111 hM
                    refine lv_aload_n hx hb dX8_readNumber_187 rfl (lv_at hl 2 rfl) ?_
                    refine lv_iconst (v := 4) hx hb dX8_readNumber_188 (by decide) ?_
                    refine lv_aload_n hx hb dX8_readNumber_189 rfl (lv_at hl 2 rfl) ?_
                    refine va_get (D := D) (ci := 8) (v := .int r102.2.1) (C := RX8) (T := TX8) (N := 48) hx hb hts layX8 hown hK hP 0 rfl rfl 6 (by decide) (hts _ (inA q984)) (fun _ h9 => h9) rfl dX8_readNumber_190 ?_
                    obtain ⟨r112, hcr112, hM⟩ := ob_use hM
                    refine cl_V (As := [.int 4, .int r102.2.1]) (rest := []) (wM0 ad o_X r112 o_N o_T o_U o_O o_E o_Q o_V o_I ++ wMX cI ad o_X) [] ⟨hx, hb, hml, hown, hts⟩ (c_Model_fail l D cI sd ad o_C o_X o_N o_T o_U o_O o_E o_Q o_V o_I r102.2 4 r102.2.1 r112 hcr112) (cwV2 hts q1163 mvX8_fail rfl rfl ⟨(Nat.le_of_ble_eq_true rfl), (Nat.le_of_ble_eq_true rfl)⟩) hK hE hA hP hD hS 0 (T := TX8) (N := 48) (ci := 8) rfl rfl [0] rfl (by decide) rfl rfl rfl rfl rfl rfl hl.1 (Nat.le_of_ble_eq_true rfl) dX8_readNumber_193 ⟨Nat.zero_le _, Nat.zero_le _⟩ (fun H locs hP hD hS => ?_)
                    cases hM
                    exact rt_v hx hb hr hlk hP hD hS rfl dX8_readNumber_196
      · replace hM := if_f c73 hM
        refine lv_iload hx hb dX8_readNumber_45 (lv_at hl 0 rfl) ?_
        refine lv_if_eq (tgt := 78) hx hb dX8_readNumber_47 (by decide) (fun c113 => False.elim (by revert c113; decide)) (fun c113 => ?_)
        refine lv_aload_n hx hb dX8_readNumber_50 rfl (lv_at hl 2 rfl) ?_
        obtain ⟨r114, hcr114, hM⟩ := ob_use hM
        refine cl_V (As := []) (rest := []) (wM0 ad o_X r114.2 o_N o_T o_U o_O o_E o_Q o_V o_I ++ wMX cI ad o_X) (.long r114.1 :: []) ⟨hx, hb, hml, hown, hts⟩ (c_Model_unit l D cI sd ad o_C o_N o_T o_U o_O o_E o_Q o_V o_I o_X r63.2 r114 hcr114) (cwV2 hts q1186 mvX8_unit rfl rfl ⟨(Nat.le_of_ble_eq_true rfl), (Nat.le_of_ble_eq_true rfl)⟩) hK hE hA hP hD hS 0 (T := TX8) (N := 48) (ci := 8) rfl rfl [0, 1] rfl (by decide) rfl rfl rfl rfl rfl rfl hl.1 (Nat.le_of_ble_eq_true rfl) dX8_readNumber_51 ⟨Nat.zero_le _, Nat.zero_le _⟩ (fun H locs hP hD hS => ?_)
        refine lv_lstore (lv' := [(5, .long r114.1), (4, .int 1), (2, .long r63.1), (0, .ref (ad 100)), (1, .int a1)]) hx hb dX8_readNumber_54 hl (by decide) rfl (fun ls hl => ?_)
        refine lv_lload hx hb dX8_readNumber_56 (lv_at hl 0 rfl) ?_
        refine lv_lconst (v := 0) hx hb dX8_readNumber_58 (by decide) ?_
        refine W.lcmp hx hb dX8_readNumber_59 ?_
        refine lv_if_le (tgt := 67) hx hb dX8_readNumber_60 (by decide) (fun c115 => ?_) (fun c115 => ?_)
        · replace hM := if_t c115 hM
          refine lv_iconst (v := 0) hx hb dX8_readNumber_67 (by decide) ?_
          refine lv_istore (lv' := [(4, .int 0), (5, .long r114.1), (2, .long r63.1), (0, .ref (ad 100)), (1, .int a1)]) hx hb dX8_readNumber_68 hl (by decide) rfl (fun ls hl => ?_)
          refine lv_lload_n hx hb dX8_readNumber_70 rfl (lv_at hl 2 rfl) ?_
          refine lv_lload hx hb dX8_readNumber_71 (lv_at hl 1 rfl) ?_
          refine lv_lmul hx hb dX8_readNumber_73 ?_
          refine lv_lstore_n (lv' := [(2, .long (r63.1 * r114.1)), (4, .int 0), (5, .long r114.1), (0, .ref (ad 100)), (1, .int a1)]) hx hb dX8_readNumber_74 rfl hl (by decide) rfl (fun ls hl => ?_)
          refine lv_goto (tgt := 163) hx hb dX8_readNumber_75 (by decide) ?_
          refine lv_iload hx hb dX8_readNumber_163 (lv_at hl 1 rfl) ?_
          refine lv_if_eq (tgt := 187) hx hb dX8_readNumber_165 (by decide) (fun c116 => ?_) (fun c116 => False.elim (by revert c116; decide))
          refine lv_aload_n hx hb dX8_readNumber_187 rfl (lv_at hl 3 rfl) ?_
          refine lv_iconst (v := 4) hx hb dX8_readNumber_188 (by decide) ?_
          refine lv_aload_n hx hb dX8_readNumber_189 rfl (lv_at hl 3 rfl) ?_
          refine va_get (D := D) (ci := 8) (v := .int r114.2.1) (C := RX8) (T := TX8) (N := 48) hx hb hts layX8 hown hK hP 0 rfl rfl 6 (by decide) (hts _ (inA q984)) (fun _ h9 => h9) rfl dX8_readNumber_190 ?_
          obtain ⟨r117, hcr117, hM⟩ := ob_use hM
          refine cl_V (As := [.int 4, .int r114.2.1]) (rest := []) (wM0 ad o_X r117 o_N o_T o_U o_O o_E o_Q o_V o_I ++ wMX cI ad o_X) [] ⟨hx, hb, hml, hown, hts⟩ (c_Model_fail l D cI sd ad o_C o_X o_N o_T o_U o_O o_E o_Q o_V o_I r114.2 4 r114.2.1 r117 hcr117) (cwV2 hts q1163 mvX8_fail rfl rfl ⟨(Nat.le_of_ble_eq_true rfl), (Nat.le_of_ble_eq_true rfl)⟩) hK hE hA hP hD hS 0 (T := TX8) (N := 48) (ci := 8) rfl rfl [0] rfl (by decide) rfl rfl rfl rfl rfl rfl hl.1 (Nat.le_of_ble_eq_true rfl) dX8_readNumber_193 ⟨Nat.zero_le _, Nat.zero_le _⟩ (fun H locs hP hD hS => ?_)
          cases hM
          exact rt_v hx hb hr hlk hP hD hS rfl dX8_readNumber_196
        · replace hM := if_f c115 hM
          refine lv_iconst (v := 1) hx hb dX8_readNumber_63 (by decide) ?_
          refine lv_goto (tgt := 68) hx hb dX8_readNumber_64 (by decide) ?_
          refine lv_istore (lv' := [(4, .int 1), (5, .long r114.1), (2, .long r63.1), (0, .ref (ad 100)), (1, .int a1)]) hx hb dX8_readNumber_68 hl (by decide) rfl (fun ls hl => ?_)
          refine lv_lload_n hx hb dX8_readNumber_70 rfl (lv_at hl 2 rfl) ?_
          refine lv_lload hx hb dX8_readNumber_71 (lv_at hl 1 rfl) ?_
          refine lv_lmul hx hb dX8_readNumber_73 ?_
          refine lv_lstore_n (lv' := [(2, .long (r63.1 * r114.1)), (4, .int 1), (5, .long r114.1), (0, .ref (ad 100)), (1, .int a1)]) hx hb dX8_readNumber_74 rfl hl (by decide) rfl (fun ls hl => ?_)
          refine lv_goto (tgt := 163) hx hb dX8_readNumber_75 (by decide) ?_
          refine lv_iload hx hb dX8_readNumber_163 (lv_at hl 1 rfl) ?_
          refine lv_if_eq (tgt := 187) hx hb dX8_readNumber_165 (by decide) (fun c118 => False.elim (by revert c118; decide)) (fun c118 => ?_)
          refine lv_aload_n hx hb dX8_readNumber_168 rfl (lv_at hl 3 rfl) ?_
          refine lv_aload_n hx hb dX8_readNumber_169 rfl (lv_at hl 3 rfl) ?_
          refine va_get (D := D) (ci := 8) (v := .int r114.2.2.2.2.1) (C := RX8) (T := TX8) (N := 48) hx hb hts layX8 hown hK hP 0 rfl rfl 9 (by decide) (hts _ (inA q987)) (fun _ h9 => h9) rfl dX8_readNumber_170 ?_
          obtain ⟨r119, hcr119, hM⟩ := ob_use hM
          refine cl_V (As := [.int r114.2.2.2.2.1]) (rest := []) (wM0 ad o_X r114.2 o_N o_T o_U o_O o_E o_Q o_V o_I ++ wMX cI ad o_X) (.int r119 :: []) ⟨hx, hb, hml, hown, hts⟩ (c_Model_goesOn l D cI sd ad o_C r114.2 o_N o_T o_U o_O o_E o_Q o_V o_I o_X r114.2.2.2.2.1 r119 hcr119) (cwV2 hts q1195 mvX8_goesOn rfl rfl ⟨(Nat.le_of_ble_eq_true rfl), (Nat.le_of_ble_eq_true rfl)⟩) hK hE hA hP hD hS 0 (T := TX8) (N := 48) (ci := 8) rfl rfl [0, 1] rfl (by decide) rfl rfl rfl rfl rfl rfl hl.1 (Nat.le_of_ble_eq_true rfl) dX8_readNumber_173 ⟨Nat.zero_le _, Nat.zero_le _⟩ (fun H locs hP hD hS => ?_)
          refine lv_if_ne (tgt := 187) hx hb dX8_readNumber_176 (by decide) (fun c120 => ?_) (fun c120 => ?_)
          · replace hM := if_f c120 hM
            refine lv_aload_n hx hb dX8_readNumber_187 rfl (lv_at hl 3 rfl) ?_
            refine lv_iconst (v := 4) hx hb dX8_readNumber_188 (by decide) ?_
            refine lv_aload_n hx hb dX8_readNumber_189 rfl (lv_at hl 3 rfl) ?_
            refine va_get (D := D) (ci := 8) (v := .int r114.2.1) (C := RX8) (T := TX8) (N := 48) hx hb hts layX8 hown hK hP 0 rfl rfl 6 (by decide) (hts _ (inA q984)) (fun _ h9 => h9) rfl dX8_readNumber_190 ?_
            obtain ⟨r121, hcr121, hM⟩ := ob_use hM
            refine cl_V (As := [.int 4, .int r114.2.1]) (rest := []) (wM0 ad o_X r121 o_N o_T o_U o_O o_E o_Q o_V o_I ++ wMX cI ad o_X) [] ⟨hx, hb, hml, hown, hts⟩ (c_Model_fail l D cI sd ad o_C o_X o_N o_T o_U o_O o_E o_Q o_V o_I r114.2 4 r114.2.1 r121 hcr121) (cwV2 hts q1163 mvX8_fail rfl rfl ⟨(Nat.le_of_ble_eq_true rfl), (Nat.le_of_ble_eq_true rfl)⟩) hK hE hA hP hD hS 0 (T := TX8) (N := 48) (ci := 8) rfl rfl [0] rfl (by decide) rfl rfl rfl rfl rfl rfl hl.1 (Nat.le_of_ble_eq_true rfl) dX8_readNumber_193 ⟨Nat.zero_le _, Nat.zero_le _⟩ (fun H locs hP hD hS => ?_)
            cases hM
            exact rt_v hx hb hr hlk hP hD hS rfl dX8_readNumber_196
          · replace hM := if_t c120 hM
            refine lv_lload_n hx hb dX8_readNumber_179 rfl (lv_at hl 0 rfl) ?_
            refine lv_ldc2 (v := 2147483647) hx hb hown (hts _ (inA q1202)) dX8_readNumber_180 ?_
            refine W.lcmp hx hb dX8_readNumber_183 ?_
            refine lv_if_le (tgt := 197) hx hb dX8_readNumber_184 (by decide) (fun c122 => ?_) (fun c122 => ?_)
            · replace hM := if_t c122 hM
              refine lv_aload_n hx hb dX8_readNumber_197 rfl (lv_at hl 3 rfl) ?_
              refine lv_bipush (v := 81) hx hb dX8_readNumber_198 (by decide) ?_
              refine va_put (D := D) (ci := 8) (v := .int 81) (ty := .int) (C := RX8) (T := TX8) (N := 48) hx hb hts layX8 tyX8 tyX8_ok nmX8 hown hK hP hD hS 0 rfl rfl 7 (by decide) (hts _ (inA q985)) (fun _ h9 => h9) rfl (by decide +kernel) rfl rfl (Nat.le_of_ble_eq_true rfl) dX8_readNumber_200 (fun H locs hP hD hS => ?_)
              have hP : va_P D vwCl (wM0 ad o_X (r114.2.1, 81, r114.2.2.2) o_N o_T o_U o_O o_E o_Q o_V o_I ++ wMX cI ad o_X) H := hP
              have hD : va_D A (wM0 ad o_X (r114.2.1, 81, r114.2.2.2) o_N o_T o_U o_O o_E o_Q o_V o_I ++ wMX cI ad o_X) := hD
              refine lv_aload_n hx hb dX8_readNumber_203 rfl (lv_at hl 3 rfl) ?_
              refine lv_lload_n hx hb dX8_readNumber_204 rfl (lv_at hl 0 rfl) ?_
              refine lv_l2i hx hb dX8_readNumber_205 rfl ?_
              refine va_put (D := D) (ci := 8) (v := .int ((r63.1 * r114.1).toInt32)) (ty := .int) (C := RX8) (T := TX8) (N := 48) hx hb hts layX8 tyX8 tyX8_ok nmX8 hown hK hP hD hS 0 rfl rfl 8 (by decide) (hts _ (inA q986)) (fun _ h9 => h9) rfl (by decide +kernel) rfl rfl (Nat.le_of_ble_eq_true rfl) dX8_readNumber_206 (fun H locs hP hD hS => ?_)
              have hP : va_P D vwCl (wM0 ad o_X (r114.2.1, 81, (r63.1 * r114.1).toInt32, r114.2.2.2.2) o_N o_T o_U o_O o_E o_Q o_V o_I ++ wMX cI ad o_X) H := hP
              have hD : va_D A (wM0 ad o_X (r114.2.1, 81, (r63.1 * r114.1).toInt32, r114.2.2.2.2) o_N o_T o_U o_O o_E o_Q o_V o_I ++ wMX cI ad o_X) := hD
              cases hM
              exact rt_v hx hb hr hlk hP hD hS rfl dX8_readNumber_209
            · replace hM := if_f c122 hM
              refine lv_aload_n hx hb dX8_readNumber_187 rfl (lv_at hl 3 rfl) ?_
              refine lv_iconst (v := 4) hx hb dX8_readNumber_188 (by decide) ?_
              refine lv_aload_n hx hb dX8_readNumber_189 rfl (lv_at hl 3 rfl) ?_
              refine va_get (D := D) (ci := 8) (v := .int r114.2.1) (C := RX8) (T := TX8) (N := 48) hx hb hts layX8 hown hK hP 0 rfl rfl 6 (by decide) (hts _ (inA q984)) (fun _ h9 => h9) rfl dX8_readNumber_190 ?_
              obtain ⟨r123, hcr123, hM⟩ := ob_use hM
              refine cl_V (As := [.int 4, .int r114.2.1]) (rest := []) (wM0 ad o_X r123 o_N o_T o_U o_O o_E o_Q o_V o_I ++ wMX cI ad o_X) [] ⟨hx, hb, hml, hown, hts⟩ (c_Model_fail l D cI sd ad o_C o_X o_N o_T o_U o_O o_E o_Q o_V o_I r114.2 4 r114.2.1 r123 hcr123) (cwV2 hts q1163 mvX8_fail rfl rfl ⟨(Nat.le_of_ble_eq_true rfl), (Nat.le_of_ble_eq_true rfl)⟩) hK hE hA hP hD hS 0 (T := TX8) (N := 48) (ci := 8) rfl rfl [0] rfl (by decide) rfl rfl rfl rfl rfl rfl hl.1 (Nat.le_of_ble_eq_true rfl) dX8_readNumber_193 ⟨Nat.zero_le _, Nat.zero_le _⟩ (fun H locs hP hD hS => ?_)
              cases hM
              exact rt_v hx hb hr hlk hP hD hS rfl dX8_readNumber_196

set_option maxHeartbeats 4000000 in
set_option maxRecDepth 100000 in
theorem c_Model_readPlace (l : Launch) (D : va_G) (cI : ClassId) (sd : Nat → Nat) (ad : Nat → Nat) (o_N : S_MN) (o_T : S_MT) (o_U : S_MU) (o_O : S_MO) (o_E : S_ME) (o_Q : S_MQ) (o_V : S_MV) (o_I : S_MI) (o_C : S_MC) (o_X : S_MX) (o_L : S_ML) (res : S_ML) (hM : f_Model_readPlace o_C o_X o_L = some res) : Ctr l D cI sd yX8_readPlace (wsM yX8_readPlace cX8_readPlace 4 (Option.none : Option Jvm.ClassFile.FieldType)) { frames := 3, cells := 0, slots := 0, locals := 65 } [.ref (ad 100)] (wM0 ad o_X o_L o_N o_T o_U o_O o_E o_Q o_V o_I ++ wMC cI ad o_C ++ wMX cI ad o_X) (wM0 ad o_X res o_N o_T o_U o_O o_E o_Q o_V o_I ++ wMC cI ad o_C ++ wMX cI ad o_X) none := by
  refine Ctr.of (cc := cX8_readPlace) (maxL := 4) (own := RX8) (by decide +kernel) rfl rfl (Nat.le_of_ble_eq_true rfl) ?_
  intro p e s m below meth c A ls hx hb hr hml hown hts hlk hK hE hA hP hD hS hl
  have hl : lv_has ls 4 [(0, .ref (ad 100))] := hl
  unfold f_Model_readPlace at hM
  refine lv_iconst (v := (-1)) hx hb dX8_readPlace_0 (by decide) ?_
  refine lv_istore_n (lv' := [(1, .int (-1)), (0, .ref (ad 100))]) hx hb dX8_readPlace_1 rfl hl (by decide) rfl (fun ls hl => ?_)
  refine lv_iconst (v := 0) hx hb dX8_readPlace_2 (by decide) ?_
  refine lv_istore_n (lv' := [(2, .int 0), (1, .int (-1)), (0, .ref (ad 100))]) hx hb dX8_readPlace_3 rfl hl (by decide) rfl (fun ls hl => ?_)
  have lp_L4 : ∀ (o_C_L4 : S_MC) (o_X_L4 : S_MX) (o_L_L4 : S_ML) (n : Nat) (v2_L4 : Int32) (v1_L4 : Int32) (out_L4 : Int32) (H : Heap) (locs : List Loc) (ls : Array Slot), f_Model_readPlace_L4 o_C_L4 o_X_L4 o_L_L4 n v2_L4 v1_L4 = some out_L4 → va_P D vwCl (wM0 ad o_X_L4 o_L_L4 o_N o_T o_U o_O o_E o_Q o_V o_I ++ wMC cI ad o_C_L4 ++ wMX cI ad o_X_L4) H → va_D A (wM0 ad o_X_L4 o_L_L4 o_N o_T o_U o_O o_E o_Q o_V o_I ++ wMC cI ad o_C_L4 ++ wMX cI ad o_X_L4) → va_S A s.heap H locs → lv_has ls 4 [(2, .int v2_L4), (1, .int v1_L4), (0, .ref (ad 100))] → (∀ (H : Heap) (locs : List Loc) (ls : Array Slot), va_P D vwCl (wM0 ad o_X_L4 o_L_L4 o_N o_T o_U o_O o_E o_Q o_V o_I ++ wMC cI ad o_C_L4 ++ wMX cI ad o_X_L4) H → va_D A (wM0 ad o_X_L4 o_L_L4 o_N o_T o_U o_O o_E o_Q o_V o_I ++ wMC cI ad o_C_L4 ++ wMX cI ad o_X_L4) → va_S A s.heap H locs → lv_has ls 4 [(1, .int out_L4), (0, .ref (ad 100))] → W p l e { frames := 3, cells := 0, slots := 0, locals := 65 } s m [.ref (ad 100)].toArray below meth c H locs 0 0 (MQ below (CQ D A (wM0 ad o_X res o_N o_T o_U o_O o_E o_Q o_V o_I ++ wMC cI ad o_C ++ wMX cI ad o_X) none) [.ref (ad 100)].toArray s 0 0 A) (F0 m 72 ls [])) → W p l e { frames := 3, cells := 0, slots := 0, locals := 65 } s m [.ref (ad 100)].toArray below meth c H locs 0 0 (MQ below (CQ D A (wM0 ad o_X res o_N o_T o_U o_O o_E o_Q o_V o_I ++ wMC cI ad o_C ++ wMX cI ad o_X) none) [.ref (ad 100)].toArray s 0 0 A) (F0 m 4 ls []) := by
    intro o_C_L4 o_X_L4 o_L_L4 n
    induction n with
    | zero => intro v2_L4 v1_L4 out_L4 H locs ls hM; exact absurd (show none = some _ from hM) (by simp)
    | succ n ih_L4 =>
      intro v2_L4 v1_L4 out_L4 H locs ls hM hP hD hS hl kx_L4
      rw [f_Model_readPlace_L4] at hM
      refine lv_iload_n hx hb dX8_readPlace_4 rfl (lv_at hl 0 rfl) ?_
      refine lv_bipush (v := 6) hx hb dX8_readPlace_5 (by decide) ?_
      refine lv_icmp_ge (tgt := 72) hx hb dX8_readPlace_7 (by decide) (fun c1141 => ?_) (fun c1141 => ?_)
      · replace hM := if_t c1141 hM
        cases hM
        exact kx_L4 _ _ _ hP hD hS (lv_sub hl [1, 2] rfl)
      · replace hM := if_f c1141 hM
        refine lv_aload_n hx hb dX8_readPlace_10 rfl (lv_at hl 2 rfl) ?_
        refine lv_aload_n hx hb dX8_readPlace_11 rfl (lv_at hl 2 rfl) ?_
        refine va_get (D := D) (ci := 8) (v := .int o_L_L4.1) (C := RX8) (T := TX8) (N := 48) hx hb hts layX8 hown hK hP 0 rfl rfl 6 (by decide) (hts _ (inA q984)) (fun _ h9 => h9) rfl dX8_readPlace_12 ?_
        refine lv_iconst (v := 1) hx hb dX8_readPlace_15 (by decide) ?_
        refine lv_iadd hx hb dX8_readPlace_16 ?_
        obtain ⟨r1142, hcr1142, hM⟩ := ob_use hM
        refine cl_V (As := [.int (o_L_L4.1 + 1)]) (rest := []) (wM0 ad o_X_L4 o_L_L4 o_N o_T o_U o_O o_E o_Q o_V o_I ++ wMC cI ad o_C_L4 ++ wMX cI ad o_X_L4) (.int r1142 :: []) ⟨hx, hb, hml, hown, hts⟩ (c_Model_at l D cI sd ad o_C_L4 o_L_L4 o_N o_T o_U o_O o_E o_Q o_V o_I o_X_L4 (o_L_L4.1 + 1) r1142 hcr1142) (cwV2 hts q1159 mvX8_at rfl rfl ⟨(Nat.le_of_ble_eq_true rfl), (Nat.le_of_ble_eq_true rfl)⟩) hK hE hA hP hD hS 0 (T := TX8) (N := 48) (ci := 8) rfl rfl [0, 5] rfl (by decide) rfl rfl rfl rfl rfl rfl hl.1 (Nat.le_of_ble_eq_true rfl) dX8_readPlace_17 ⟨Nat.zero_le _, Nat.zero_le _⟩ (fun H locs hP hD hS => ?_)
        obtain ⟨r1143, hcr1143, hM⟩ := ob_use hM
        refine cl_S (As := [.int r1142]) (rest := []) (wM0 ad o_X_L4 o_L_L4 o_N o_T o_U o_O o_E o_Q o_V o_I ++ wMC cI ad o_C_L4 ++ wMX cI ad o_X_L4) (.int r1143 :: []) ⟨hx, hb, hml, hown, hts⟩ (c_Model_great l D cI sd ad r1142 r1143 hcr1143) (cwS2 hts q1178 mvX8_great rfl rfl ⟨(Nat.le_of_ble_eq_true rfl), (Nat.le_of_ble_eq_true rfl)⟩) hK hE hA hP hD hS [] rfl (by decide) rfl rfl rfl rfl rfl rfl hl.1 (Nat.le_of_ble_eq_true rfl) dX8_readPlace_20 ⟨Nat.zero_le _, Nat.zero_le _⟩ (fun H locs hP hD hS => ?_)
        refine lv_aload_n hx hb dX8_readPlace_23 rfl (lv_at hl 2 rfl) ?_
        refine va_get (D := D) (ci := 8) (v := .ref (ad 104)) (C := RX8) (T := TX8) (N := 48) hx hb hts layX8 hown hK hP 0 rfl rfl 3 (by decide) (hts _ (inA q981)) (fun _ h9 => h9) rfl dX8_readPlace_24 ?_
        refine lv_iconst (v := 2) hx hb dX8_readPlace_27 (by decide) ?_
        refine lv_iload_n hx hb dX8_readPlace_28 rfl (lv_at hl 0 rfl) ?_
        refine lv_imul hx hb dX8_readPlace_29 ?_
        obtain ⟨b1144, hM⟩ := gd_use hM
        refine va_iald hx hb hK hP 4 0 rfl rfl b1144 dX8_readPlace_30 ?_
        refine lv_icmp_ne (tgt := 64) hx hb dX8_readPlace_31 (by decide) (fun c1145 => ?_) (fun c1145 => ?_)
        · replace hM := if_f c1145 hM
          refine lv_iload_n hx hb dX8_readPlace_64 rfl (lv_at hl 1 rfl) ?_
          refine lv_istore_n (lv' := [(1, .int v1_L4), (2, .int v2_L4), (0, .ref (ad 100))]) hx hb dX8_readPlace_65 rfl hl (by decide) rfl (fun ls hl => ?_)
          obtain ⟨x1146, ex1146⟩ : ∃ y : Int32, y = v2_L4 + 1 := ⟨_, rfl⟩
          replace hM := nm_use ex1146 hM
          refine lv_iinc (v := x1146) (lv' := [(2, .int x1146), (1, .int v1_L4), (0, .ref (ad 100))]) hx hb dX8_readPlace_66 hl (k := 1) rfl (by rw [ex1146]; rfl) (by decide) rfl (fun ls hl => ?_)
          refine lv_goto (tgt := 4) hx hb dX8_readPlace_69 (by decide) ?_
          exact ih_L4 x1146 v1_L4 out_L4 _ _ _ hM hP hD hS (lv_sub hl [0, 1, 2] rfl) kx_L4
        · replace hM := if_t c1145 hM
          refine lv_aload_n hx hb dX8_readPlace_34 rfl (lv_at hl 2 rfl) ?_
          refine lv_aload_n hx hb dX8_readPlace_35 rfl (lv_at hl 2 rfl) ?_
          refine va_get (D := D) (ci := 8) (v := .int o_L_L4.1) (C := RX8) (T := TX8) (N := 48) hx hb hts layX8 hown hK hP 0 rfl rfl 6 (by decide) (hts _ (inA q984)) (fun _ h9 => h9) rfl dX8_readPlace_36 ?_
          refine lv_iconst (v := 2) hx hb dX8_readPlace_39 (by decide) ?_
          refine lv_iadd hx hb dX8_readPlace_40 ?_
          obtain ⟨r1147, hcr1147, hM⟩ := ob_use hM
          refine cl_V (As := [.int (o_L_L4.1 + 2)]) (rest := []) (wM0 ad o_X_L4 o_L_L4 o_N o_T o_U o_O o_E o_Q o_V o_I ++ wMC cI ad o_C_L4 ++ wMX cI ad o_X_L4) (.int r1147 :: []) ⟨hx, hb, hml, hown, hts⟩ (c_Model_at l D cI sd ad o_C_L4 o_L_L4 o_N o_T o_U o_O o_E o_Q o_V o_I o_X_L4 (o_L_L4.1 + 2) r1147 hcr1147) (cwV2 hts q1159 mvX8_at rfl rfl ⟨(Nat.le_of_ble_eq_true rfl), (Nat.le_of_ble_eq_true rfl)⟩) hK hE hA hP hD hS 0 (T := TX8) (N := 48) (ci := 8) rfl rfl [0, 5] rfl (by decide) rfl rfl rfl rfl rfl rfl hl.1 (Nat.le_of_ble_eq_true rfl) dX8_readPlace_41 ⟨Nat.zero_le _, Nat.zero_le _⟩ (fun H locs hP hD hS => ?_)
          obtain ⟨r1148, hcr1148, hM⟩ := ob_use hM
          refine cl_S (As := [.int r1147]) (rest := []) (wM0 ad o_X_L4 o_L_L4 o_N o_T o_U o_O o_E o_Q o_V o_I ++ wMC cI ad o_C_L4 ++ wMX cI ad o_X_L4) (.int r1148 :: []) ⟨hx, hb, hml, hown, hts⟩ (c_Model_great l D cI sd ad r1147 r1148 hcr1148) (cwS2 hts q1178 mvX8_great rfl rfl ⟨(Nat.le_of_ble_eq_true rfl), (Nat.le_of_ble_eq_true rfl)⟩) hK hE hA hP hD hS [] rfl (by decide) rfl rfl rfl rfl rfl rfl hl.1 (Nat.le_of_ble_eq_true rfl) dX8_readPlace_44 ⟨Nat.zero_le _, Nat.zero_le _⟩ (fun H locs hP hD hS => ?_)
          refine lv_aload_n hx hb dX8_readPlace_47 rfl (lv_at hl 2 rfl) ?_
          refine va_get (D := D) (ci := 8) (v := .ref (ad 104)) (C := RX8) (T := TX8) (N := 48) hx hb hts layX8 hown hK hP 0 rfl rfl 3 (by decide) (hts _ (inA q981)) (fun _ h9 => h9) rfl dX8_readPlace_48 ?_
          refine lv_iconst (v := 2) hx hb dX8_readPlace_51 (by decide) ?_
          refine lv_iload_n hx hb dX8_readPlace_52 rfl (lv_at hl 0 rfl) ?_
          refine lv_imul hx hb dX8_readPlace_53 ?_
          refine lv_iconst (v := 1) hx hb dX8_readPlace_54 (by decide) ?_
          refine lv_iadd hx hb dX8_readPlace_55 ?_
          obtain ⟨b1149, hM⟩ := gd_use hM
          refine va_iald hx hb hK hP 4 0 rfl rfl b1149 dX8_readPlace_56 ?_
          refine lv_icmp_ne (tgt := 64) hx hb dX8_readPlace_57 (by decide) (fun c1150 => ?_) (fun c1150 => ?_)
          · replace hM := if_f c1150 hM
            refine lv_iload_n hx hb dX8_readPlace_64 rfl (lv_at hl 1 rfl) ?_
            refine lv_istore_n (lv' := [(1, .int v1_L4), (2, .int v2_L4), (0, .ref (ad 100))]) hx hb dX8_readPlace_65 rfl hl (by decide) rfl (fun ls hl => ?_)
            obtain ⟨x1151, ex1151⟩ : ∃ y : Int32, y = v2_L4 + 1 := ⟨_, rfl⟩
            replace hM := nm_use ex1151 hM
            refine lv_iinc (v := x1151) (lv' := [(2, .int x1151), (1, .int v1_L4), (0, .ref (ad 100))]) hx hb dX8_readPlace_66 hl (k := 1) rfl (by rw [ex1151]; rfl) (by decide) rfl (fun ls hl => ?_)
            refine lv_goto (tgt := 4) hx hb dX8_readPlace_69 (by decide) ?_
            exact ih_L4 x1151 v1_L4 out_L4 _ _ _ hM hP hD hS (lv_sub hl [0, 1, 2] rfl) kx_L4
          · replace hM := if_t c1150 hM
            refine lv_iload_n hx hb dX8_readPlace_60 rfl (lv_at hl 0 rfl) ?_
            refine lv_goto (tgt := 65) hx hb dX8_readPlace_61 (by decide) ?_
            refine lv_istore_n (lv' := [(1, .int v2_L4), (2, .int v2_L4), (0, .ref (ad 100))]) hx hb dX8_readPlace_65 rfl hl (by decide) rfl (fun ls hl => ?_)
            obtain ⟨x1152, ex1152⟩ : ∃ y : Int32, y = v2_L4 + 1 := ⟨_, rfl⟩
            replace hM := nm_use ex1152 hM
            refine lv_iinc (v := x1152) (lv' := [(2, .int x1152), (1, .int v2_L4), (0, .ref (ad 100))]) hx hb dX8_readPlace_66 hl (k := 1) rfl (by rw [ex1152]; rfl) (by decide) rfl (fun ls hl => ?_)
            refine lv_goto (tgt := 4) hx hb dX8_readPlace_69 (by decide) ?_
            exact ih_L4 x1152 v2_L4 out_L4 _ _ _ hM hP hD hS (lv_sub hl [0, 1, 2] rfl) kx_L4
  obtain ⟨r1, hcr1, hM⟩ := ob_use hM
  refine lp_L4 o_C o_X o_L FU 0 (-1) r1 _ _ _ hcr1 hP hD hS (lv_sub hl [0, 1, 2] rfl) (fun H locs ls hP hD hS hl => ?_)
  refine lv_aload_n hx hb dX8_readPlace_72 rfl (lv_at hl 1 rfl) ?_
  refine lv_aload_n hx hb dX8_readPlace_73 rfl (lv_at hl 1 rfl) ?_
  refine va_get (D := D) (ci := 8) (v := .int o_L.1) (C := RX8) (T := TX8) (N := 48) hx hb hts layX8 hown hK hP 0 rfl rfl 6 (by decide) (hts _ (inA q984)) (fun _ h9 => h9) rfl dX8_readPlace_74 ?_
  refine lv_iconst (v := 3) hx hb dX8_readPlace_77 (by decide) ?_
  refine lv_iadd hx hb dX8_readPlace_78 ?_
  refine va_put (D := D) (ci := 8) (v := .int (o_L.1 + 3)) (ty := .int) (C := RX8) (T := TX8) (N := 48) hx hb hts layX8 tyX8 tyX8_ok nmX8 hown hK hP hD hS 0 rfl rfl 9 (by decide) (hts _ (inA q987)) (fun _ h9 => h9) rfl (by decide +kernel) rfl rfl (Nat.le_of_ble_eq_true rfl) dX8_readPlace_79 (fun H locs hP hD hS => ?_)
  have hP : va_P D vwCl (wM0 ad o_X (o_L.1, o_L.2.1, o_L.2.2.1, o_L.1 + 3, o_L.2.2.2.2) o_N o_T o_U o_O o_E o_Q o_V o_I ++ wMC cI ad o_C ++ wMX cI ad o_X) H := hP
  have hD : va_D A (wM0 ad o_X (o_L.1, o_L.2.1, o_L.2.2.1, o_L.1 + 3, o_L.2.2.2.2) o_N o_T o_U o_O o_E o_Q o_V o_I ++ wMC cI ad o_C ++ wMX cI ad o_X) := hD
  refine lv_iload_n hx hb dX8_readPlace_82 rfl (lv_at hl 0 rfl) ?_
  refine lv_if_lt (tgt := 95) hx hb dX8_readPlace_83 (by decide) (fun c2 => ?_) (fun c2 => ?_)
  · replace hM := if_t c2 hM
    refine lv_ldc2 (v := (-1)) hx hb hown (hts _ (inA q1185)) dX8_readPlace_95 ?_
    refine lv_lstore_n (lv' := [(2, .long (-1)), (1, .int r1), (0, .ref (ad 100))]) hx hb dX8_readPlace_98 rfl hl (by decide) rfl (fun ls hl => ?_)
    refine lv_lload_n hx hb dX8_readPlace_99 rfl (lv_at hl 0 rfl) ?_
    refine lv_lconst (v := 0) hx hb dX8_readPlace_100 (by decide) ?_
    refine W.lcmp hx hb dX8_readPlace_101 ?_
    refine lv_if_lt (tgt := 135) hx hb dX8_readPlace_102 (by decide) (fun c3 => ?_) (fun c3 => ?_)
    · replace hM := if_t c3 hM
      refine lv_aload_n hx hb dX8_readPlace_135 rfl (lv_at hl 2 rfl) ?_
      refine lv_iconst (v := 5) hx hb dX8_readPlace_136 (by decide) ?_
      refine lv_aload_n hx hb dX8_readPlace_137 rfl (lv_at hl 2 rfl) ?_
      refine va_get (D := D) (ci := 8) (v := .int o_L.1) (C := RX8) (T := TX8) (N := 48) hx hb hts layX8 hown hK hP 0 rfl rfl 6 (by decide) (hts _ (inA q984)) (fun _ h9 => h9) rfl dX8_readPlace_138 ?_
      obtain ⟨r4, hcr4, hM⟩ := ob_use hM
      refine cl_V (As := [.int 5, .int o_L.1]) (rest := []) (wM0 ad o_X r4 o_N o_T o_U o_O o_E o_Q o_V o_I ++ wMC cI ad o_C ++ wMX cI ad o_X) [] ⟨hx, hb, hml, hown, hts⟩ (c_Model_fail l D cI sd ad o_C o_X o_N o_T o_U o_O o_E o_Q o_V o_I (o_L.1, o_L.2.1, o_L.2.2.1, o_L.1 + 3, o_L.2.2.2.2) 5 o_L.1 r4 hcr4) (cwV2 hts q1163 mvX8_fail rfl rfl ⟨(Nat.le_of_ble_eq_true rfl), (Nat.le_of_ble_eq_true rfl)⟩) hK hE hA hP hD hS 0 (T := TX8) (N := 48) (ci := 8) rfl rfl [0] rfl (by decide) rfl rfl rfl rfl rfl rfl hl.1 (Nat.le_of_ble_eq_true rfl) dX8_readPlace_141 ⟨Nat.zero_le _, Nat.zero_le _⟩ (fun H locs hP hD hS => ?_)
      cases hM
      exact rt_v hx hb hr hlk hP hD hS rfl dX8_readPlace_144
    · replace hM := if_f c3 hM
      refine lv_lload_n hx hb dX8_readPlace_105 rfl (lv_at hl 0 rfl) ?_
      refine lv_iload_n hx hb dX8_readPlace_106 rfl (lv_at hl 1 rfl) ?_
      refine lv_iconst (v := 3) hx hb dX8_readPlace_107 (by decide) ?_
      refine lv_icmp_ge (tgt := 117) hx hb dX8_readPlace_108 (by decide) (fun c5 => ?_) (fun c5 => ?_)
      · replace hM := if_t c5 hM
        refine lv_ldc2 (v := 63) hx hb hown (hts _ (inA q1220)) dX8_readPlace_117 ?_
        refine W.lcmp hx hb dX8_readPlace_120 ?_
        refine lv_if_gt (tgt := 135) hx hb dX8_readPlace_121 (by decide) (fun c6 => ?_) (fun c6 => ?_)
        · replace hM := if_t c6 hM
          refine lv_aload_n hx hb dX8_readPlace_135 rfl (lv_at hl 2 rfl) ?_
          refine lv_iconst (v := 5) hx hb dX8_readPlace_136 (by decide) ?_
          refine lv_aload_n hx hb dX8_readPlace_137 rfl (lv_at hl 2 rfl) ?_
          refine va_get (D := D) (ci := 8) (v := .int o_L.1) (C := RX8) (T := TX8) (N := 48) hx hb hts layX8 hown hK hP 0 rfl rfl 6 (by decide) (hts _ (inA q984)) (fun _ h9 => h9) rfl dX8_readPlace_138 ?_
          obtain ⟨r7, hcr7, hM⟩ := ob_use hM
          refine cl_V (As := [.int 5, .int o_L.1]) (rest := []) (wM0 ad o_X r7 o_N o_T o_U o_O o_E o_Q o_V o_I ++ wMC cI ad o_C ++ wMX cI ad o_X) [] ⟨hx, hb, hml, hown, hts⟩ (c_Model_fail l D cI sd ad o_C o_X o_N o_T o_U o_O o_E o_Q o_V o_I (o_L.1, o_L.2.1, o_L.2.2.1, o_L.1 + 3, o_L.2.2.2.2) 5 o_L.1 r7 hcr7) (cwV2 hts q1163 mvX8_fail rfl rfl ⟨(Nat.le_of_ble_eq_true rfl), (Nat.le_of_ble_eq_true rfl)⟩) hK hE hA hP hD hS 0 (T := TX8) (N := 48) (ci := 8) rfl rfl [0] rfl (by decide) rfl rfl rfl rfl rfl rfl hl.1 (Nat.le_of_ble_eq_true rfl) dX8_readPlace_141 ⟨Nat.zero_le _, Nat.zero_le _⟩ (fun H locs hP hD hS => ?_)
          cases hM
          exact rt_v hx hb hr hlk hP hD hS rfl dX8_readPlace_144
        · replace hM := if_f c6 hM
          refine lv_aload_n hx hb dX8_readPlace_124 rfl (lv_at hl 2 rfl) ?_
          refine lv_aload_n hx hb dX8_readPlace_125 rfl (lv_at hl 2 rfl) ?_
          refine va_get (D := D) (ci := 8) (v := .int (o_L.1 + 3)) (C := RX8) (T := TX8) (N := 48) hx hb hts layX8 hown hK hP 0 rfl rfl 9 (by decide) (hts _ (inA q987)) (fun _ h9 => h9) rfl dX8_readPlace_126 ?_
          obtain ⟨r8, hcr8, hM⟩ := ob_use hM
          refine cl_V (As := [.int (o_L.1 + 3)]) (rest := []) (wM0 ad o_X (o_L.1, o_L.2.1, o_L.2.2.1, o_L.1 + 3, o_L.2.2.2.2) o_N o_T o_U o_O o_E o_Q o_V o_I ++ wMC cI ad o_C ++ wMX cI ad o_X) (.int r8 :: []) ⟨hx, hb, hml, hown, hts⟩ (c_Model_goesOn l D cI sd ad o_C (o_L.1, o_L.2.1, o_L.2.2.1, o_L.1 + 3, o_L.2.2.2.2) o_N o_T o_U o_O o_E o_Q o_V o_I o_X (o_L.1 + 3) r8 hcr8) (cwV2 hts q1195 mvX8_goesOn rfl rfl ⟨(Nat.le_of_ble_eq_true rfl), (Nat.le_of_ble_eq_true rfl)⟩) hK hE hA hP hD hS 0 (T := TX8) (N := 48) (ci := 8) rfl rfl [0, 5] rfl (by decide) rfl rfl rfl rfl rfl rfl hl.1 (Nat.le_of_ble_eq_true rfl) dX8_readPlace_129 ⟨Nat.zero_le _, Nat.zero_le _⟩ (fun H locs hP hD hS => ?_)
          refine lv_if_eq (tgt := 145) hx hb dX8_readPlace_132 (by decide) (fun c9 => ?_) (fun c9 => ?_)
          · replace hM := if_t c9 hM
            refine lv_aload_n hx hb dX8_readPlace_145 rfl (lv_at hl 2 rfl) ?_
            refine lv_bipush (v := 82) hx hb dX8_readPlace_146 (by decide) ?_
            refine va_put (D := D) (ci := 8) (v := .int 82) (ty := .int) (C := RX8) (T := TX8) (N := 48) hx hb hts layX8 tyX8 tyX8_ok nmX8 hown hK hP hD hS 0 rfl rfl 7 (by decide) (hts _ (inA q985)) (fun _ h9 => h9) rfl (by decide +kernel) rfl rfl (Nat.le_of_ble_eq_true rfl) dX8_readPlace_148 (fun H locs hP hD hS => ?_)
            have hP : va_P D vwCl (wM0 ad o_X (o_L.1, 82, o_L.2.2.1, o_L.1 + 3, o_L.2.2.2.2) o_N o_T o_U o_O o_E o_Q o_V o_I ++ wMC cI ad o_C ++ wMX cI ad o_X) H := hP
            have hD : va_D A (wM0 ad o_X (o_L.1, 82, o_L.2.2.1, o_L.1 + 3, o_L.2.2.2.2) o_N o_T o_U o_O o_E o_Q o_V o_I ++ wMC cI ad o_C ++ wMX cI ad o_X) := hD
            refine lv_aload_n hx hb dX8_readPlace_151 rfl (lv_at hl 2 rfl) ?_
            refine lv_sipush (v := 256) hx hb dX8_readPlace_152 (by decide) ?_
            refine lv_iload_n hx hb dX8_readPlace_155 rfl (lv_at hl 1 rfl) ?_
            refine lv_imul hx hb dX8_readPlace_156 ?_
            refine lv_lload_n hx hb dX8_readPlace_157 rfl (lv_at hl 0 rfl) ?_
            refine lv_l2i hx hb dX8_readPlace_158 rfl ?_
            refine lv_iadd hx hb dX8_readPlace_159 ?_
            refine lv_topi (fun x10 ex10 => ?_)
            replace hM := nm_use ex10 hM
            refine va_put (D := D) (ci := 8) (v := .int x10) (ty := .int) (C := RX8) (T := TX8) (N := 48) hx hb hts layX8 tyX8 tyX8_ok nmX8 hown hK hP hD hS 0 rfl rfl 8 (by decide) (hts _ (inA q986)) (fun _ h9 => h9) rfl (by decide +kernel) rfl rfl (Nat.le_of_ble_eq_true rfl) dX8_readPlace_160 (fun H locs hP hD hS => ?_)
            have hP : va_P D vwCl (wM0 ad o_X (o_L.1, 82, x10, o_L.1 + 3, o_L.2.2.2.2) o_N o_T o_U o_O o_E o_Q o_V o_I ++ wMC cI ad o_C ++ wMX cI ad o_X) H := hP
            have hD : va_D A (wM0 ad o_X (o_L.1, 82, x10, o_L.1 + 3, o_L.2.2.2.2) o_N o_T o_U o_O o_E o_Q o_V o_I ++ wMC cI ad o_C ++ wMX cI ad o_X) := hD
            cases hM
            exact rt_v hx hb hr hlk hP hD hS rfl dX8_readPlace_163
          · replace hM := if_f c9 hM
            refine lv_aload_n hx hb dX8_readPlace_135 rfl (lv_at hl 2 rfl) ?_
            refine lv_iconst (v := 5) hx hb dX8_readPlace_136 (by decide) ?_
            refine lv_aload_n hx hb dX8_readPlace_137 rfl (lv_at hl 2 rfl) ?_
            refine va_get (D := D) (ci := 8) (v := .int o_L.1) (C := RX8) (T := TX8) (N := 48) hx hb hts layX8 hown hK hP 0 rfl rfl 6 (by decide) (hts _ (inA q984)) (fun _ h9 => h9) rfl dX8_readPlace_138 ?_
            obtain ⟨r11, hcr11, hM⟩ := ob_use hM
            refine cl_V (As := [.int 5, .int o_L.1]) (rest := []) (wM0 ad o_X r11 o_N o_T o_U o_O o_E o_Q o_V o_I ++ wMC cI ad o_C ++ wMX cI ad o_X) [] ⟨hx, hb, hml, hown, hts⟩ (c_Model_fail l D cI sd ad o_C o_X o_N o_T o_U o_O o_E o_Q o_V o_I (o_L.1, o_L.2.1, o_L.2.2.1, o_L.1 + 3, o_L.2.2.2.2) 5 o_L.1 r11 hcr11) (cwV2 hts q1163 mvX8_fail rfl rfl ⟨(Nat.le_of_ble_eq_true rfl), (Nat.le_of_ble_eq_true rfl)⟩) hK hE hA hP hD hS 0 (T := TX8) (N := 48) (ci := 8) rfl rfl [0] rfl (by decide) rfl rfl rfl rfl rfl rfl hl.1 (Nat.le_of_ble_eq_true rfl) dX8_readPlace_141 ⟨Nat.zero_le _, Nat.zero_le _⟩ (fun H locs hP hD hS => ?_)
            cases hM
            exact rt_v hx hb hr hlk hP hD hS rfl dX8_readPlace_144
      · replace hM := if_f c5 hM
        refine lv_ldc2 (v := 255) hx hb hown (hts _ (inA q1219)) dX8_readPlace_111 ?_
        refine lv_goto (tgt := 120) hx hb dX8_readPlace_114 (by decide) ?_
        refine W.lcmp hx hb dX8_readPlace_120 ?_
        refine lv_if_gt (tgt := 135) hx hb dX8_readPlace_121 (by decide) (fun c12 => ?_) (fun c12 => ?_)
        · replace hM := if_t c12 hM
          refine lv_aload_n hx hb dX8_readPlace_135 rfl (lv_at hl 2 rfl) ?_
          refine lv_iconst (v := 5) hx hb dX8_readPlace_136 (by decide) ?_
          refine lv_aload_n hx hb dX8_readPlace_137 rfl (lv_at hl 2 rfl) ?_
          refine va_get (D := D) (ci := 8) (v := .int o_L.1) (C := RX8) (T := TX8) (N := 48) hx hb hts layX8 hown hK hP 0 rfl rfl 6 (by decide) (hts _ (inA q984)) (fun _ h9 => h9) rfl dX8_readPlace_138 ?_
          obtain ⟨r13, hcr13, hM⟩ := ob_use hM
          refine cl_V (As := [.int 5, .int o_L.1]) (rest := []) (wM0 ad o_X r13 o_N o_T o_U o_O o_E o_Q o_V o_I ++ wMC cI ad o_C ++ wMX cI ad o_X) [] ⟨hx, hb, hml, hown, hts⟩ (c_Model_fail l D cI sd ad o_C o_X o_N o_T o_U o_O o_E o_Q o_V o_I (o_L.1, o_L.2.1, o_L.2.2.1, o_L.1 + 3, o_L.2.2.2.2) 5 o_L.1 r13 hcr13) (cwV2 hts q1163 mvX8_fail rfl rfl ⟨(Nat.le_of_ble_eq_true rfl), (Nat.le_of_ble_eq_true rfl)⟩) hK hE hA hP hD hS 0 (T := TX8) (N := 48) (ci := 8) rfl rfl [0] rfl (by decide) rfl rfl rfl rfl rfl rfl hl.1 (Nat.le_of_ble_eq_true rfl) dX8_readPlace_141 ⟨Nat.zero_le _, Nat.zero_le _⟩ (fun H locs hP hD hS => ?_)
          cases hM
          exact rt_v hx hb hr hlk hP hD hS rfl dX8_readPlace_144
        · replace hM := if_f c12 hM
          refine lv_aload_n hx hb dX8_readPlace_124 rfl (lv_at hl 2 rfl) ?_
          refine lv_aload_n hx hb dX8_readPlace_125 rfl (lv_at hl 2 rfl) ?_
          refine va_get (D := D) (ci := 8) (v := .int (o_L.1 + 3)) (C := RX8) (T := TX8) (N := 48) hx hb hts layX8 hown hK hP 0 rfl rfl 9 (by decide) (hts _ (inA q987)) (fun _ h9 => h9) rfl dX8_readPlace_126 ?_
          obtain ⟨r14, hcr14, hM⟩ := ob_use hM
          refine cl_V (As := [.int (o_L.1 + 3)]) (rest := []) (wM0 ad o_X (o_L.1, o_L.2.1, o_L.2.2.1, o_L.1 + 3, o_L.2.2.2.2) o_N o_T o_U o_O o_E o_Q o_V o_I ++ wMC cI ad o_C ++ wMX cI ad o_X) (.int r14 :: []) ⟨hx, hb, hml, hown, hts⟩ (c_Model_goesOn l D cI sd ad o_C (o_L.1, o_L.2.1, o_L.2.2.1, o_L.1 + 3, o_L.2.2.2.2) o_N o_T o_U o_O o_E o_Q o_V o_I o_X (o_L.1 + 3) r14 hcr14) (cwV2 hts q1195 mvX8_goesOn rfl rfl ⟨(Nat.le_of_ble_eq_true rfl), (Nat.le_of_ble_eq_true rfl)⟩) hK hE hA hP hD hS 0 (T := TX8) (N := 48) (ci := 8) rfl rfl [0, 5] rfl (by decide) rfl rfl rfl rfl rfl rfl hl.1 (Nat.le_of_ble_eq_true rfl) dX8_readPlace_129 ⟨Nat.zero_le _, Nat.zero_le _⟩ (fun H locs hP hD hS => ?_)
          refine lv_if_eq (tgt := 145) hx hb dX8_readPlace_132 (by decide) (fun c15 => ?_) (fun c15 => ?_)
          · replace hM := if_t c15 hM
            refine lv_aload_n hx hb dX8_readPlace_145 rfl (lv_at hl 2 rfl) ?_
            refine lv_bipush (v := 82) hx hb dX8_readPlace_146 (by decide) ?_
            refine va_put (D := D) (ci := 8) (v := .int 82) (ty := .int) (C := RX8) (T := TX8) (N := 48) hx hb hts layX8 tyX8 tyX8_ok nmX8 hown hK hP hD hS 0 rfl rfl 7 (by decide) (hts _ (inA q985)) (fun _ h9 => h9) rfl (by decide +kernel) rfl rfl (Nat.le_of_ble_eq_true rfl) dX8_readPlace_148 (fun H locs hP hD hS => ?_)
            have hP : va_P D vwCl (wM0 ad o_X (o_L.1, 82, o_L.2.2.1, o_L.1 + 3, o_L.2.2.2.2) o_N o_T o_U o_O o_E o_Q o_V o_I ++ wMC cI ad o_C ++ wMX cI ad o_X) H := hP
            have hD : va_D A (wM0 ad o_X (o_L.1, 82, o_L.2.2.1, o_L.1 + 3, o_L.2.2.2.2) o_N o_T o_U o_O o_E o_Q o_V o_I ++ wMC cI ad o_C ++ wMX cI ad o_X) := hD
            refine lv_aload_n hx hb dX8_readPlace_151 rfl (lv_at hl 2 rfl) ?_
            refine lv_sipush (v := 256) hx hb dX8_readPlace_152 (by decide) ?_
            refine lv_iload_n hx hb dX8_readPlace_155 rfl (lv_at hl 1 rfl) ?_
            refine lv_imul hx hb dX8_readPlace_156 ?_
            refine lv_lload_n hx hb dX8_readPlace_157 rfl (lv_at hl 0 rfl) ?_
            refine lv_l2i hx hb dX8_readPlace_158 rfl ?_
            refine lv_iadd hx hb dX8_readPlace_159 ?_
            refine lv_topi (fun x16 ex16 => ?_)
            replace hM := nm_use ex16 hM
            refine va_put (D := D) (ci := 8) (v := .int x16) (ty := .int) (C := RX8) (T := TX8) (N := 48) hx hb hts layX8 tyX8 tyX8_ok nmX8 hown hK hP hD hS 0 rfl rfl 8 (by decide) (hts _ (inA q986)) (fun _ h9 => h9) rfl (by decide +kernel) rfl rfl (Nat.le_of_ble_eq_true rfl) dX8_readPlace_160 (fun H locs hP hD hS => ?_)
            have hP : va_P D vwCl (wM0 ad o_X (o_L.1, 82, x16, o_L.1 + 3, o_L.2.2.2.2) o_N o_T o_U o_O o_E o_Q o_V o_I ++ wMC cI ad o_C ++ wMX cI ad o_X) H := hP
            have hD : va_D A (wM0 ad o_X (o_L.1, 82, x16, o_L.1 + 3, o_L.2.2.2.2) o_N o_T o_U o_O o_E o_Q o_V o_I ++ wMC cI ad o_C ++ wMX cI ad o_X) := hD
            cases hM
            exact rt_v hx hb hr hlk hP hD hS rfl dX8_readPlace_163
          · replace hM := if_f c15 hM
            refine lv_aload_n hx hb dX8_readPlace_135 rfl (lv_at hl 2 rfl) ?_
            refine lv_iconst (v := 5) hx hb dX8_readPlace_136 (by decide) ?_
            refine lv_aload_n hx hb dX8_readPlace_137 rfl (lv_at hl 2 rfl) ?_
            refine va_get (D := D) (ci := 8) (v := .int o_L.1) (C := RX8) (T := TX8) (N := 48) hx hb hts layX8 hown hK hP 0 rfl rfl 6 (by decide) (hts _ (inA q984)) (fun _ h9 => h9) rfl dX8_readPlace_138 ?_
            obtain ⟨r17, hcr17, hM⟩ := ob_use hM
            refine cl_V (As := [.int 5, .int o_L.1]) (rest := []) (wM0 ad o_X r17 o_N o_T o_U o_O o_E o_Q o_V o_I ++ wMC cI ad o_C ++ wMX cI ad o_X) [] ⟨hx, hb, hml, hown, hts⟩ (c_Model_fail l D cI sd ad o_C o_X o_N o_T o_U o_O o_E o_Q o_V o_I (o_L.1, o_L.2.1, o_L.2.2.1, o_L.1 + 3, o_L.2.2.2.2) 5 o_L.1 r17 hcr17) (cwV2 hts q1163 mvX8_fail rfl rfl ⟨(Nat.le_of_ble_eq_true rfl), (Nat.le_of_ble_eq_true rfl)⟩) hK hE hA hP hD hS 0 (T := TX8) (N := 48) (ci := 8) rfl rfl [0] rfl (by decide) rfl rfl rfl rfl rfl rfl hl.1 (Nat.le_of_ble_eq_true rfl) dX8_readPlace_141 ⟨Nat.zero_le _, Nat.zero_le _⟩ (fun H locs hP hD hS => ?_)
            cases hM
            exact rt_v hx hb hr hlk hP hD hS rfl dX8_readPlace_144
  · replace hM := if_f c2 hM
    refine lv_aload_n hx hb dX8_readPlace_86 rfl (lv_at hl 1 rfl) ?_
    refine lv_bipush (v := 10) hx hb dX8_readPlace_87 (by decide) ?_
    obtain ⟨r18, hcr18, hM⟩ := ob_use hM
    refine cl_V (As := [.int 10]) (rest := []) (wM0 ad o_X r18.2 o_N o_T o_U o_O o_E o_Q o_V o_I ++ wMC cI ad o_C ++ wMX cI ad o_X) (.long r18.1 :: []) ⟨hx, hb, hml, hown, hts⟩ (c_Model_digits l D cI sd ad o_C o_N o_T o_U o_O o_E o_Q o_V o_I o_X (o_L.1, o_L.2.1, o_L.2.2.1, o_L.1 + 3, o_L.2.2.2.2) 10 r18 hcr18) (cwV2 hts q1171 mvX8_digits rfl rfl ⟨(Nat.le_of_ble_eq_true rfl), (Nat.le_of_ble_eq_true rfl)⟩) hK hE hA hP hD hS 0 (T := TX8) (N := 48) (ci := 8) rfl rfl [0, 5] rfl (by decide) rfl rfl rfl rfl rfl rfl hl.1 (Nat.le_of_ble_eq_true rfl) dX8_readPlace_89 ⟨Nat.zero_le _, Nat.zero_le _⟩ (fun H locs hP hD hS => ?_)
    refine lv_goto (tgt := 98) hx hb dX8_readPlace_92 (by decide) ?_
    refine lv_lstore_n (lv' := [(2, .long r18.1), (1, .int r1), (0, .ref (ad 100))]) hx hb dX8_readPlace_98 rfl hl (by decide) rfl (fun ls hl => ?_)
    refine lv_lload_n hx hb dX8_readPlace_99 rfl (lv_at hl 0 rfl) ?_
    refine lv_lconst (v := 0) hx hb dX8_readPlace_100 (by decide) ?_
    refine W.lcmp hx hb dX8_readPlace_101 ?_
    refine lv_if_lt (tgt := 135) hx hb dX8_readPlace_102 (by decide) (fun c19 => ?_) (fun c19 => ?_)
    · replace hM := if_t c19 hM
      refine lv_aload_n hx hb dX8_readPlace_135 rfl (lv_at hl 2 rfl) ?_
      refine lv_iconst (v := 5) hx hb dX8_readPlace_136 (by decide) ?_
      refine lv_aload_n hx hb dX8_readPlace_137 rfl (lv_at hl 2 rfl) ?_
      refine va_get (D := D) (ci := 8) (v := .int r18.2.1) (C := RX8) (T := TX8) (N := 48) hx hb hts layX8 hown hK hP 0 rfl rfl 6 (by decide) (hts _ (inA q984)) (fun _ h9 => h9) rfl dX8_readPlace_138 ?_
      obtain ⟨r20, hcr20, hM⟩ := ob_use hM
      refine cl_V (As := [.int 5, .int r18.2.1]) (rest := []) (wM0 ad o_X r20 o_N o_T o_U o_O o_E o_Q o_V o_I ++ wMC cI ad o_C ++ wMX cI ad o_X) [] ⟨hx, hb, hml, hown, hts⟩ (c_Model_fail l D cI sd ad o_C o_X o_N o_T o_U o_O o_E o_Q o_V o_I r18.2 5 r18.2.1 r20 hcr20) (cwV2 hts q1163 mvX8_fail rfl rfl ⟨(Nat.le_of_ble_eq_true rfl), (Nat.le_of_ble_eq_true rfl)⟩) hK hE hA hP hD hS 0 (T := TX8) (N := 48) (ci := 8) rfl rfl [0] rfl (by decide) rfl rfl rfl rfl rfl rfl hl.1 (Nat.le_of_ble_eq_true rfl) dX8_readPlace_141 ⟨Nat.zero_le _, Nat.zero_le _⟩ (fun H locs hP hD hS => ?_)
      cases hM
      exact rt_v hx hb hr hlk hP hD hS rfl dX8_readPlace_144
    · replace hM := if_f c19 hM
      refine lv_lload_n hx hb dX8_readPlace_105 rfl (lv_at hl 0 rfl) ?_
      refine lv_iload_n hx hb dX8_readPlace_106 rfl (lv_at hl 1 rfl) ?_
      refine lv_iconst (v := 3) hx hb dX8_readPlace_107 (by decide) ?_
      refine lv_icmp_ge (tgt := 117) hx hb dX8_readPlace_108 (by decide) (fun c21 => ?_) (fun c21 => ?_)
      · replace hM := if_t c21 hM
        refine lv_ldc2 (v := 63) hx hb hown (hts _ (inA q1220)) dX8_readPlace_117 ?_
        refine W.lcmp hx hb dX8_readPlace_120 ?_
        refine lv_if_gt (tgt := 135) hx hb dX8_readPlace_121 (by decide) (fun c22 => ?_) (fun c22 => ?_)
        · replace hM := if_t c22 hM
          refine lv_aload_n hx hb dX8_readPlace_135 rfl (lv_at hl 2 rfl) ?_
          refine lv_iconst (v := 5) hx hb dX8_readPlace_136 (by decide) ?_
          refine lv_aload_n hx hb dX8_readPlace_137 rfl (lv_at hl 2 rfl) ?_
          refine va_get (D := D) (ci := 8) (v := .int r18.2.1) (C := RX8) (T := TX8) (N := 48) hx hb hts layX8 hown hK hP 0 rfl rfl 6 (by decide) (hts _ (inA q984)) (fun _ h9 => h9) rfl dX8_readPlace_138 ?_
          obtain ⟨r23, hcr23, hM⟩ := ob_use hM
          refine cl_V (As := [.int 5, .int r18.2.1]) (rest := []) (wM0 ad o_X r23 o_N o_T o_U o_O o_E o_Q o_V o_I ++ wMC cI ad o_C ++ wMX cI ad o_X) [] ⟨hx, hb, hml, hown, hts⟩ (c_Model_fail l D cI sd ad o_C o_X o_N o_T o_U o_O o_E o_Q o_V o_I r18.2 5 r18.2.1 r23 hcr23) (cwV2 hts q1163 mvX8_fail rfl rfl ⟨(Nat.le_of_ble_eq_true rfl), (Nat.le_of_ble_eq_true rfl)⟩) hK hE hA hP hD hS 0 (T := TX8) (N := 48) (ci := 8) rfl rfl [0] rfl (by decide) rfl rfl rfl rfl rfl rfl hl.1 (Nat.le_of_ble_eq_true rfl) dX8_readPlace_141 ⟨Nat.zero_le _, Nat.zero_le _⟩ (fun H locs hP hD hS => ?_)
          cases hM
          exact rt_v hx hb hr hlk hP hD hS rfl dX8_readPlace_144
        · replace hM := if_f c22 hM
          refine lv_aload_n hx hb dX8_readPlace_124 rfl (lv_at hl 2 rfl) ?_
          refine lv_aload_n hx hb dX8_readPlace_125 rfl (lv_at hl 2 rfl) ?_
          refine va_get (D := D) (ci := 8) (v := .int r18.2.2.2.2.1) (C := RX8) (T := TX8) (N := 48) hx hb hts layX8 hown hK hP 0 rfl rfl 9 (by decide) (hts _ (inA q987)) (fun _ h9 => h9) rfl dX8_readPlace_126 ?_
          obtain ⟨r24, hcr24, hM⟩ := ob_use hM
          refine cl_V (As := [.int r18.2.2.2.2.1]) (rest := []) (wM0 ad o_X r18.2 o_N o_T o_U o_O o_E o_Q o_V o_I ++ wMC cI ad o_C ++ wMX cI ad o_X) (.int r24 :: []) ⟨hx, hb, hml, hown, hts⟩ (c_Model_goesOn l D cI sd ad o_C r18.2 o_N o_T o_U o_O o_E o_Q o_V o_I o_X r18.2.2.2.2.1 r24 hcr24) (cwV2 hts q1195 mvX8_goesOn rfl rfl ⟨(Nat.le_of_ble_eq_true rfl), (Nat.le_of_ble_eq_true rfl)⟩) hK hE hA hP hD hS 0 (T := TX8) (N := 48) (ci := 8) rfl rfl [0, 5] rfl (by decide) rfl rfl rfl rfl rfl rfl hl.1 (Nat.le_of_ble_eq_true rfl) dX8_readPlace_129 ⟨Nat.zero_le _, Nat.zero_le _⟩ (fun H locs hP hD hS => ?_)
          refine lv_if_eq (tgt := 145) hx hb dX8_readPlace_132 (by decide) (fun c25 => ?_) (fun c25 => ?_)
          · replace hM := if_t c25 hM
            refine lv_aload_n hx hb dX8_readPlace_145 rfl (lv_at hl 2 rfl) ?_
            refine lv_bipush (v := 82) hx hb dX8_readPlace_146 (by decide) ?_
            refine va_put (D := D) (ci := 8) (v := .int 82) (ty := .int) (C := RX8) (T := TX8) (N := 48) hx hb hts layX8 tyX8 tyX8_ok nmX8 hown hK hP hD hS 0 rfl rfl 7 (by decide) (hts _ (inA q985)) (fun _ h9 => h9) rfl (by decide +kernel) rfl rfl (Nat.le_of_ble_eq_true rfl) dX8_readPlace_148 (fun H locs hP hD hS => ?_)
            have hP : va_P D vwCl (wM0 ad o_X (r18.2.1, 82, r18.2.2.2) o_N o_T o_U o_O o_E o_Q o_V o_I ++ wMC cI ad o_C ++ wMX cI ad o_X) H := hP
            have hD : va_D A (wM0 ad o_X (r18.2.1, 82, r18.2.2.2) o_N o_T o_U o_O o_E o_Q o_V o_I ++ wMC cI ad o_C ++ wMX cI ad o_X) := hD
            refine lv_aload_n hx hb dX8_readPlace_151 rfl (lv_at hl 2 rfl) ?_
            refine lv_sipush (v := 256) hx hb dX8_readPlace_152 (by decide) ?_
            refine lv_iload_n hx hb dX8_readPlace_155 rfl (lv_at hl 1 rfl) ?_
            refine lv_imul hx hb dX8_readPlace_156 ?_
            refine lv_lload_n hx hb dX8_readPlace_157 rfl (lv_at hl 0 rfl) ?_
            refine lv_l2i hx hb dX8_readPlace_158 rfl ?_
            refine lv_iadd hx hb dX8_readPlace_159 ?_
            refine lv_topi (fun x26 ex26 => ?_)
            replace hM := nm_use ex26 hM
            refine va_put (D := D) (ci := 8) (v := .int x26) (ty := .int) (C := RX8) (T := TX8) (N := 48) hx hb hts layX8 tyX8 tyX8_ok nmX8 hown hK hP hD hS 0 rfl rfl 8 (by decide) (hts _ (inA q986)) (fun _ h9 => h9) rfl (by decide +kernel) rfl rfl (Nat.le_of_ble_eq_true rfl) dX8_readPlace_160 (fun H locs hP hD hS => ?_)
            have hP : va_P D vwCl (wM0 ad o_X (r18.2.1, 82, x26, r18.2.2.2.2) o_N o_T o_U o_O o_E o_Q o_V o_I ++ wMC cI ad o_C ++ wMX cI ad o_X) H := hP
            have hD : va_D A (wM0 ad o_X (r18.2.1, 82, x26, r18.2.2.2.2) o_N o_T o_U o_O o_E o_Q o_V o_I ++ wMC cI ad o_C ++ wMX cI ad o_X) := hD
            cases hM
            exact rt_v hx hb hr hlk hP hD hS rfl dX8_readPlace_163
          · replace hM := if_f c25 hM
            refine lv_aload_n hx hb dX8_readPlace_135 rfl (lv_at hl 2 rfl) ?_
            refine lv_iconst (v := 5) hx hb dX8_readPlace_136 (by decide) ?_
            refine lv_aload_n hx hb dX8_readPlace_137 rfl (lv_at hl 2 rfl) ?_
            refine va_get (D := D) (ci := 8) (v := .int r18.2.1) (C := RX8) (T := TX8) (N := 48) hx hb hts layX8 hown hK hP 0 rfl rfl 6 (by decide) (hts _ (inA q984)) (fun _ h9 => h9) rfl dX8_readPlace_138 ?_
            obtain ⟨r27, hcr27, hM⟩ := ob_use hM
            refine cl_V (As := [.int 5, .int r18.2.1]) (rest := []) (wM0 ad o_X r27 o_N o_T o_U o_O o_E o_Q o_V o_I ++ wMC cI ad o_C ++ wMX cI ad o_X) [] ⟨hx, hb, hml, hown, hts⟩ (c_Model_fail l D cI sd ad o_C o_X o_N o_T o_U o_O o_E o_Q o_V o_I r18.2 5 r18.2.1 r27 hcr27) (cwV2 hts q1163 mvX8_fail rfl rfl ⟨(Nat.le_of_ble_eq_true rfl), (Nat.le_of_ble_eq_true rfl)⟩) hK hE hA hP hD hS 0 (T := TX8) (N := 48) (ci := 8) rfl rfl [0] rfl (by decide) rfl rfl rfl rfl rfl rfl hl.1 (Nat.le_of_ble_eq_true rfl) dX8_readPlace_141 ⟨Nat.zero_le _, Nat.zero_le _⟩ (fun H locs hP hD hS => ?_)
            cases hM
            exact rt_v hx hb hr hlk hP hD hS rfl dX8_readPlace_144
      · replace hM := if_f c21 hM
        refine lv_ldc2 (v := 255) hx hb hown (hts _ (inA q1219)) dX8_readPlace_111 ?_
        refine lv_goto (tgt := 120) hx hb dX8_readPlace_114 (by decide) ?_
        refine W.lcmp hx hb dX8_readPlace_120 ?_
        refine lv_if_gt (tgt := 135) hx hb dX8_readPlace_121 (by decide) (fun c28 => ?_) (fun c28 => ?_)
        · replace hM := if_t c28 hM
          refine lv_aload_n hx hb dX8_readPlace_135 rfl (lv_at hl 2 rfl) ?_
          refine lv_iconst (v := 5) hx hb dX8_readPlace_136 (by decide) ?_
          refine lv_aload_n hx hb dX8_readPlace_137 rfl (lv_at hl 2 rfl) ?_
          refine va_get (D := D) (ci := 8) (v := .int r18.2.1) (C := RX8) (T := TX8) (N := 48) hx hb hts layX8 hown hK hP 0 rfl rfl 6 (by decide) (hts _ (inA q984)) (fun _ h9 => h9) rfl dX8_readPlace_138 ?_
          obtain ⟨r29, hcr29, hM⟩ := ob_use hM
          refine cl_V (As := [.int 5, .int r18.2.1]) (rest := []) (wM0 ad o_X r29 o_N o_T o_U o_O o_E o_Q o_V o_I ++ wMC cI ad o_C ++ wMX cI ad o_X) [] ⟨hx, hb, hml, hown, hts⟩ (c_Model_fail l D cI sd ad o_C o_X o_N o_T o_U o_O o_E o_Q o_V o_I r18.2 5 r18.2.1 r29 hcr29) (cwV2 hts q1163 mvX8_fail rfl rfl ⟨(Nat.le_of_ble_eq_true rfl), (Nat.le_of_ble_eq_true rfl)⟩) hK hE hA hP hD hS 0 (T := TX8) (N := 48) (ci := 8) rfl rfl [0] rfl (by decide) rfl rfl rfl rfl rfl rfl hl.1 (Nat.le_of_ble_eq_true rfl) dX8_readPlace_141 ⟨Nat.zero_le _, Nat.zero_le _⟩ (fun H locs hP hD hS => ?_)
          cases hM
          exact rt_v hx hb hr hlk hP hD hS rfl dX8_readPlace_144
        · replace hM := if_f c28 hM
          refine lv_aload_n hx hb dX8_readPlace_124 rfl (lv_at hl 2 rfl) ?_
          refine lv_aload_n hx hb dX8_readPlace_125 rfl (lv_at hl 2 rfl) ?_
          refine va_get (D := D) (ci := 8) (v := .int r18.2.2.2.2.1) (C := RX8) (T := TX8) (N := 48) hx hb hts layX8 hown hK hP 0 rfl rfl 9 (by decide) (hts _ (inA q987)) (fun _ h9 => h9) rfl dX8_readPlace_126 ?_
          obtain ⟨r30, hcr30, hM⟩ := ob_use hM
          refine cl_V (As := [.int r18.2.2.2.2.1]) (rest := []) (wM0 ad o_X r18.2 o_N o_T o_U o_O o_E o_Q o_V o_I ++ wMC cI ad o_C ++ wMX cI ad o_X) (.int r30 :: []) ⟨hx, hb, hml, hown, hts⟩ (c_Model_goesOn l D cI sd ad o_C r18.2 o_N o_T o_U o_O o_E o_Q o_V o_I o_X r18.2.2.2.2.1 r30 hcr30) (cwV2 hts q1195 mvX8_goesOn rfl rfl ⟨(Nat.le_of_ble_eq_true rfl), (Nat.le_of_ble_eq_true rfl)⟩) hK hE hA hP hD hS 0 (T := TX8) (N := 48) (ci := 8) rfl rfl [0, 5] rfl (by decide) rfl rfl rfl rfl rfl rfl hl.1 (Nat.le_of_ble_eq_true rfl) dX8_readPlace_129 ⟨Nat.zero_le _, Nat.zero_le _⟩ (fun H locs hP hD hS => ?_)
          refine lv_if_eq (tgt := 145) hx hb dX8_readPlace_132 (by decide) (fun c31 => ?_) (fun c31 => ?_)
          · replace hM := if_t c31 hM
            refine lv_aload_n hx hb dX8_readPlace_145 rfl (lv_at hl 2 rfl) ?_
            refine lv_bipush (v := 82) hx hb dX8_readPlace_146 (by decide) ?_
            refine va_put (D := D) (ci := 8) (v := .int 82) (ty := .int) (C := RX8) (T := TX8) (N := 48) hx hb hts layX8 tyX8 tyX8_ok nmX8 hown hK hP hD hS 0 rfl rfl 7 (by decide) (hts _ (inA q985)) (fun _ h9 => h9) rfl (by decide +kernel) rfl rfl (Nat.le_of_ble_eq_true rfl) dX8_readPlace_148 (fun H locs hP hD hS => ?_)
            have hP : va_P D vwCl (wM0 ad o_X (r18.2.1, 82, r18.2.2.2) o_N o_T o_U o_O o_E o_Q o_V o_I ++ wMC cI ad o_C ++ wMX cI ad o_X) H := hP
            have hD : va_D A (wM0 ad o_X (r18.2.1, 82, r18.2.2.2) o_N o_T o_U o_O o_E o_Q o_V o_I ++ wMC cI ad o_C ++ wMX cI ad o_X) := hD
            refine lv_aload_n hx hb dX8_readPlace_151 rfl (lv_at hl 2 rfl) ?_
            refine lv_sipush (v := 256) hx hb dX8_readPlace_152 (by decide) ?_
            refine lv_iload_n hx hb dX8_readPlace_155 rfl (lv_at hl 1 rfl) ?_
            refine lv_imul hx hb dX8_readPlace_156 ?_
            refine lv_lload_n hx hb dX8_readPlace_157 rfl (lv_at hl 0 rfl) ?_
            refine lv_l2i hx hb dX8_readPlace_158 rfl ?_
            refine lv_iadd hx hb dX8_readPlace_159 ?_
            refine lv_topi (fun x32 ex32 => ?_)
            replace hM := nm_use ex32 hM
            refine va_put (D := D) (ci := 8) (v := .int x32) (ty := .int) (C := RX8) (T := TX8) (N := 48) hx hb hts layX8 tyX8 tyX8_ok nmX8 hown hK hP hD hS 0 rfl rfl 8 (by decide) (hts _ (inA q986)) (fun _ h9 => h9) rfl (by decide +kernel) rfl rfl (Nat.le_of_ble_eq_true rfl) dX8_readPlace_160 (fun H locs hP hD hS => ?_)
            have hP : va_P D vwCl (wM0 ad o_X (r18.2.1, 82, x32, r18.2.2.2.2) o_N o_T o_U o_O o_E o_Q o_V o_I ++ wMC cI ad o_C ++ wMX cI ad o_X) H := hP
            have hD : va_D A (wM0 ad o_X (r18.2.1, 82, x32, r18.2.2.2.2) o_N o_T o_U o_O o_E o_Q o_V o_I ++ wMC cI ad o_C ++ wMX cI ad o_X) := hD
            cases hM
            exact rt_v hx hb hr hlk hP hD hS rfl dX8_readPlace_163
          · replace hM := if_f c31 hM
            refine lv_aload_n hx hb dX8_readPlace_135 rfl (lv_at hl 2 rfl) ?_
            refine lv_iconst (v := 5) hx hb dX8_readPlace_136 (by decide) ?_
            refine lv_aload_n hx hb dX8_readPlace_137 rfl (lv_at hl 2 rfl) ?_
            refine va_get (D := D) (ci := 8) (v := .int r18.2.1) (C := RX8) (T := TX8) (N := 48) hx hb hts layX8 hown hK hP 0 rfl rfl 6 (by decide) (hts _ (inA q984)) (fun _ h9 => h9) rfl dX8_readPlace_138 ?_
            obtain ⟨r33, hcr33, hM⟩ := ob_use hM
            refine cl_V (As := [.int 5, .int r18.2.1]) (rest := []) (wM0 ad o_X r33 o_N o_T o_U o_O o_E o_Q o_V o_I ++ wMC cI ad o_C ++ wMX cI ad o_X) [] ⟨hx, hb, hml, hown, hts⟩ (c_Model_fail l D cI sd ad o_C o_X o_N o_T o_U o_O o_E o_Q o_V o_I r18.2 5 r18.2.1 r33 hcr33) (cwV2 hts q1163 mvX8_fail rfl rfl ⟨(Nat.le_of_ble_eq_true rfl), (Nat.le_of_ble_eq_true rfl)⟩) hK hE hA hP hD hS 0 (T := TX8) (N := 48) (ci := 8) rfl rfl [0] rfl (by decide) rfl rfl rfl rfl rfl rfl hl.1 (Nat.le_of_ble_eq_true rfl) dX8_readPlace_141 ⟨Nat.zero_le _, Nat.zero_le _⟩ (fun H locs hP hD hS => ?_)
            cases hM
            exact rt_v hx hb hr hlk hP hD hS rfl dX8_readPlace_144

set_option maxHeartbeats 4000000 in
set_option maxRecDepth 100000 in
theorem c_Model_readSign (l : Launch) (D : va_G) (cI : ClassId) (sd : Nat → Nat) (ad : Nat → Nat) (o_N : S_MN) (o_T : S_MT) (o_U : S_MU) (o_O : S_MO) (o_E : S_ME) (o_Q : S_MQ) (o_V : S_MV) (o_I : S_MI) (o_C : S_MC) (o_X : S_MX) (o_L : S_ML) (res : S_ML) (hM : f_Model_readSign o_C o_X o_L = some res) : Ctr l D cI sd yX8_readSign (wsM yX8_readSign cX8_readSign 5 (Option.none : Option Jvm.ClassFile.FieldType)) { frames := 1, cells := 0, slots := 0, locals := 22 } [.ref (ad 100)] (wM0 ad o_X o_L o_N o_T o_U o_O o_E o_Q o_V o_I ++ wMC cI ad o_C ++ wMX cI ad o_X) (wM0 ad o_X res o_N o_T o_U o_O o_E o_Q o_V o_I ++ wMC cI ad o_C ++ wMX cI ad o_X) none := by
  refine Ctr.of (cc := cX8_readSign) (maxL := 5) (own := RX8) (by decide +kernel) rfl rfl (Nat.le_of_ble_eq_true rfl) ?_
  intro p e s m below meth c A ls hx hb hr hml hown hts hlk hK hE hA hP hD hS hl
  have hl : lv_has ls 5 [(0, .ref (ad 100))] := hl
  unfold f_Model_readSign at hM
  refine lv_aload_n hx hb dX8_readSign_0 rfl (lv_at hl 0 rfl) ?_
  refine lv_aload_n hx hb dX8_readSign_1 rfl (lv_at hl 0 rfl) ?_
  refine va_get (D := D) (ci := 8) (v := .int o_L.1) (C := RX8) (T := TX8) (N := 48) hx hb hts layX8 hown hK hP 0 rfl rfl 6 (by decide) (hts _ (inA q984)) (fun _ h9 => h9) rfl dX8_readSign_2 ?_
  obtain ⟨r1, hcr1, hM⟩ := ob_use hM
  refine cl_V (As := [.int o_L.1]) (rest := []) (wM0 ad o_X o_L o_N o_T o_U o_O o_E o_Q o_V o_I ++ wMC cI ad o_C ++ wMX cI ad o_X) (.int r1 :: []) ⟨hx, hb, hml, hown, hts⟩ (c_Model_at l D cI sd ad o_C o_L o_N o_T o_U o_O o_E o_Q o_V o_I o_X o_L.1 r1 hcr1) (cwV2 hts q1159 mvX8_at rfl rfl ⟨(Nat.le_of_ble_eq_true rfl), (Nat.le_of_ble_eq_true rfl)⟩) hK hE hA hP hD hS 0 (T := TX8) (N := 48) (ci := 8) rfl rfl [0, 5] rfl (by decide) rfl rfl rfl rfl rfl rfl hl.1 (Nat.le_of_ble_eq_true rfl) dX8_readSign_5 ⟨Nat.zero_le _, Nat.zero_le _⟩ (fun H locs hP hD hS => ?_)
  refine lv_istore_n (lv' := [(1, .int r1), (0, .ref (ad 100))]) hx hb dX8_readSign_8 rfl hl (by decide) rfl (fun ls hl => ?_)
  refine lv_iconst (v := (-1)) hx hb dX8_readSign_9 (by decide) ?_
  refine lv_istore_n (lv' := [(2, .int (-1)), (1, .int r1), (0, .ref (ad 100))]) hx hb dX8_readSign_10 rfl hl (by decide) rfl (fun ls hl => ?_)
  refine lv_bipush (v := 21) hx hb dX8_readSign_11 (by decide) ?_
  refine lv_istore_n (lv' := [(3, .int 21), (2, .int (-1)), (1, .int r1), (0, .ref (ad 100))]) hx hb dX8_readSign_13 rfl hl (by decide) rfl (fun ls hl => ?_)
  have lp_L14 : ∀ (w1_L14 : Int32) (o_C_L14 : S_MC) (o_X_L14 : S_MX) (o_L_L14 : S_ML) (n : Nat) (v3_L14 : Int32) (v2_L14 : Int32) (out_L14 : Int32) (H : Heap) (locs : List Loc) (ls : Array Slot), f_Model_readSign_L14 w1_L14 o_C_L14 o_X_L14 o_L_L14 n v3_L14 v2_L14 = some out_L14 → va_P D vwCl (wM0 ad o_X_L14 o_L_L14 o_N o_T o_U o_O o_E o_Q o_V o_I ++ wMC cI ad o_C_L14 ++ wMX cI ad o_X_L14) H → va_D A (wM0 ad o_X_L14 o_L_L14 o_N o_T o_U o_O o_E o_Q o_V o_I ++ wMC cI ad o_C_L14 ++ wMX cI ad o_X_L14) → va_S A s.heap H locs → lv_has ls 5 [(3, .int v3_L14), (2, .int v2_L14), (1, .int w1_L14), (0, .ref (ad 100))] → (∀ (H : Heap) (locs : List Loc) (ls : Array Slot), va_P D vwCl (wM0 ad o_X_L14 o_L_L14 o_N o_T o_U o_O o_E o_Q o_V o_I ++ wMC cI ad o_C_L14 ++ wMX cI ad o_X_L14) H → va_D A (wM0 ad o_X_L14 o_L_L14 o_N o_T o_U o_O o_E o_Q o_V o_I ++ wMC cI ad o_C_L14 ++ wMX cI ad o_X_L14) → va_S A s.heap H locs → lv_has ls 5 [(2, .int out_L14), (1, .int w1_L14), (0, .ref (ad 100))] → W p l e { frames := 1, cells := 0, slots := 0, locals := 22 } s m [.ref (ad 100)].toArray below meth c H locs 0 0 (MQ below (CQ D A (wM0 ad o_X res o_N o_T o_U o_O o_E o_Q o_V o_I ++ wMC cI ad o_C ++ wMX cI ad o_X) none) [.ref (ad 100)].toArray s 0 0 A) (F0 m 90 ls [])) → W p l e { frames := 1, cells := 0, slots := 0, locals := 22 } s m [.ref (ad 100)].toArray below meth c H locs 0 0 (MQ below (CQ D A (wM0 ad o_X res o_N o_T o_U o_O o_E o_Q o_V o_I ++ wMC cI ad o_C ++ wMX cI ad o_X) none) [.ref (ad 100)].toArray s 0 0 A) (F0 m 14 ls []) := by
    intro w1_L14 o_C_L14 o_X_L14 o_L_L14 n
    induction n with
    | zero => intro v3_L14 v2_L14 out_L14 H locs ls hM; exact absurd (show none = some _ from hM) (by simp)
    | succ n ih_L14 =>
      intro v3_L14 v2_L14 out_L14 H locs ls hM hP hD hS hl kx_L14
      rw [f_Model_readSign_L14] at hM
      refine lv_iload_n hx hb dX8_readSign_14 rfl (lv_at hl 0 rfl) ?_
      refine lv_if_lt (tgt := 90) hx hb dX8_readSign_15 (by decide) (fun c1241 => ?_) (fun c1241 => ?_)
      · replace hM := if_t c1241 hM
        cases hM
        exact kx_L14 _ _ _ hP hD hS (lv_sub hl [1, 2, 3] rfl)
      · replace hM := if_f c1241 hM
        refine lv_aload_n hx hb dX8_readSign_18 rfl (lv_at hl 3 rfl) ?_
        refine va_get (D := D) (ci := 8) (v := .ref (ad 103)) (C := RX8) (T := TX8) (N := 48) hx hb hts layX8 hown hK hP 0 rfl rfl 2 (by decide) (hts _ (inA q980)) (fun _ h9 => h9) rfl dX8_readSign_19 ?_
        refine lv_iconst (v := 2) hx hb dX8_readSign_22 (by decide) ?_
        refine lv_iload_n hx hb dX8_readSign_23 rfl (lv_at hl 0 rfl) ?_
        refine lv_imul hx hb dX8_readSign_24 ?_
        refine lv_iconst (v := 1) hx hb dX8_readSign_25 (by decide) ?_
        refine lv_iadd hx hb dX8_readSign_26 ?_
        obtain ⟨b1242, hM⟩ := gd_use hM
        refine va_iald hx hb hK hP 3 0 rfl rfl b1242 dX8_readSign_27 ?_
        refine lv_if_eq (tgt := 35) hx hb dX8_readSign_28 (by decide) (fun c1243 => ?_) (fun c1243 => ?_)
        · replace hM := if_t c1243 hM
          refine lv_iconst (v := 0) hx hb dX8_readSign_35 (by decide) ?_
          refine lv_istore (lv' := [(4, .int 0), (3, .int v3_L14), (2, .int v2_L14), (1, .int w1_L14), (0, .ref (ad 100))]) hx hb dX8_readSign_36 hl (by decide) rfl (fun ls hl => ?_)
          refine lv_aload_n hx hb dX8_readSign_38 rfl (lv_at hl 4 rfl) ?_
          refine va_get (D := D) (ci := 8) (v := .ref (ad 103)) (C := RX8) (T := TX8) (N := 48) hx hb hts layX8 hown hK hP 0 rfl rfl 2 (by decide) (hts _ (inA q980)) (fun _ h9 => h9) rfl dX8_readSign_39 ?_
          refine lv_iconst (v := 2) hx hb dX8_readSign_42 (by decide) ?_
          refine lv_iload_n hx hb dX8_readSign_43 rfl (lv_at hl 1 rfl) ?_
          refine lv_imul hx hb dX8_readSign_44 ?_
          obtain ⟨b1244, hM⟩ := gd_use hM
          refine va_iald hx hb hK hP 3 0 rfl rfl b1244 dX8_readSign_45 ?_
          refine lv_iload_n hx hb dX8_readSign_46 rfl (lv_at hl 3 rfl) ?_
          refine lv_icmp_ne (tgt := 82) hx hb dX8_readSign_47 (by decide) (fun c1245 => ?_) (fun c1245 => ?_)
          · replace hM := if_f c1245 hM
            refine lv_iload_n hx hb dX8_readSign_82 rfl (lv_at hl 2 rfl) ?_
            refine lv_istore_n (lv' := [(2, .int v2_L14), (4, .int 0), (3, .int v3_L14), (1, .int w1_L14), (0, .ref (ad 100))]) hx hb dX8_readSign_83 rfl hl (by decide) rfl (fun ls hl => ?_)
            obtain ⟨x1246, ex1246⟩ : ∃ y : Int32, y = v3_L14 + (-1) := ⟨_, rfl⟩
            replace hM := nm_use ex1246 hM
            refine lv_iinc (v := x1246) (lv' := [(3, .int x1246), (2, .int v2_L14), (4, .int 0), (1, .int w1_L14), (0, .ref (ad 100))]) hx hb dX8_readSign_84 hl (k := 2) rfl (by rw [ex1246]; rfl) (by decide) rfl (fun ls hl => ?_)
            refine lv_goto (tgt := 14) hx hb dX8_readSign_87 (by decide) ?_
            exact ih_L14 x1246 v2_L14 out_L14 _ _ _ hM hP hD hS (lv_sub hl [0, 1, 3, 4] rfl) kx_L14
          · replace hM := if_t c1245 hM
            refine lv_iload hx hb dX8_readSign_50 (lv_at hl 0 rfl) ?_
            refine lv_if_eq (tgt := 78) hx hb dX8_readSign_52 (by decide) (fun c1247 => ?_) (fun c1247 => False.elim (by revert c1247; decide))
            refine lv_iload_n hx hb dX8_readSign_78 rfl (lv_at hl 1 rfl) ?_
            refine lv_goto (tgt := 83) hx hb dX8_readSign_79 (by decide) ?_
            refine lv_istore_n (lv' := [(2, .int v3_L14), (4, .int 0), (3, .int v3_L14), (1, .int w1_L14), (0, .ref (ad 100))]) hx hb dX8_readSign_83 rfl hl (by decide) rfl (fun ls hl => ?_)
            obtain ⟨x1248, ex1248⟩ : ∃ y : Int32, y = v3_L14 + (-1) := ⟨_, rfl⟩
            replace hM := nm_use ex1248 hM
            refine lv_iinc (v := x1248) (lv' := [(3, .int x1248), (2, .int v3_L14), (4, .int 0), (1, .int w1_L14), (0, .ref (ad 100))]) hx hb dX8_readSign_84 hl (k := 2) rfl (by rw [ex1248]; rfl) (by decide) rfl (fun ls hl => ?_)
            refine lv_goto (tgt := 14) hx hb dX8_readSign_87 (by decide) ?_
            exact ih_L14 x1248 v3_L14 out_L14 _ _ _ hM hP hD hS (lv_sub hl [0, 1, 3, 4] rfl) kx_L14
        · replace hM := if_f c1243 hM
          refine lv_iconst (v := 1) hx hb dX8_readSign_31 (by decide) ?_
          refine lv_goto (tgt := 36) hx hb dX8_readSign_32 (by decide) ?_
          refine lv_istore (lv' := [(4, .int 1), (3, .int v3_L14), (2, .int v2_L14), (1, .int w1_L14), (0, .ref (ad 100))]) hx hb dX8_readSign_36 hl (by decide) rfl (fun ls hl => ?_)
          refine lv_aload_n hx hb dX8_readSign_38 rfl (lv_at hl 4 rfl) ?_
          refine va_get (D := D) (ci := 8) (v := .ref (ad 103)) (C := RX8) (T := TX8) (N := 48) hx hb hts layX8 hown hK hP 0 rfl rfl 2 (by decide) (hts _ (inA q980)) (fun _ h9 => h9) rfl dX8_readSign_39 ?_
          refine lv_iconst (v := 2) hx hb dX8_readSign_42 (by decide) ?_
          refine lv_iload_n hx hb dX8_readSign_43 rfl (lv_at hl 1 rfl) ?_
          refine lv_imul hx hb dX8_readSign_44 ?_
          obtain ⟨b1249, hM⟩ := gd_use hM
          refine va_iald hx hb hK hP 3 0 rfl rfl b1249 dX8_readSign_45 ?_
          refine lv_iload_n hx hb dX8_readSign_46 rfl (lv_at hl 3 rfl) ?_
          refine lv_icmp_ne (tgt := 82) hx hb dX8_readSign_47 (by decide) (fun c1250 => ?_) (fun c1250 => ?_)
          · replace hM := if_f c1250 hM
            refine lv_iload_n hx hb dX8_readSign_82 rfl (lv_at hl 2 rfl) ?_
            refine lv_istore_n (lv' := [(2, .int v2_L14), (4, .int 1), (3, .int v3_L14), (1, .int w1_L14), (0, .ref (ad 100))]) hx hb dX8_readSign_83 rfl hl (by decide) rfl (fun ls hl => ?_)
            obtain ⟨x1251, ex1251⟩ : ∃ y : Int32, y = v3_L14 + (-1) := ⟨_, rfl⟩
            replace hM := nm_use ex1251 hM
            refine lv_iinc (v := x1251) (lv' := [(3, .int x1251), (2, .int v2_L14), (4, .int 1), (1, .int w1_L14), (0, .ref (ad 100))]) hx hb dX8_readSign_84 hl (k := 2) rfl (by rw [ex1251]; rfl) (by decide) rfl (fun ls hl => ?_)
            refine lv_goto (tgt := 14) hx hb dX8_readSign_87 (by decide) ?_
            exact ih_L14 x1251 v2_L14 out_L14 _ _ _ hM hP hD hS (lv_sub hl [0, 1, 3, 4] rfl) kx_L14
          · replace hM := if_t c1250 hM
            refine lv_iload hx hb dX8_readSign_50 (lv_at hl 0 rfl) ?_
            refine lv_if_eq (tgt := 78) hx hb dX8_readSign_52 (by decide) (fun c1252 => False.elim (by revert c1252; decide)) (fun c1252 => ?_)
            refine lv_aload_n hx hb dX8_readSign_55 rfl (lv_at hl 4 rfl) ?_
            refine va_get (D := D) (ci := 8) (v := .ref (ad 103)) (C := RX8) (T := TX8) (N := 48) hx hb hts layX8 hown hK hP 0 rfl rfl 2 (by decide) (hts _ (inA q980)) (fun _ h9 => h9) rfl dX8_readSign_56 ?_
            refine lv_iconst (v := 2) hx hb dX8_readSign_59 (by decide) ?_
            refine lv_iload_n hx hb dX8_readSign_60 rfl (lv_at hl 1 rfl) ?_
            refine lv_imul hx hb dX8_readSign_61 ?_
            refine lv_iconst (v := 1) hx hb dX8_readSign_62 (by decide) ?_
            refine lv_iadd hx hb dX8_readSign_63 ?_
            obtain ⟨b1253, hM⟩ := gd_use hM
            refine va_iald hx hb hK hP 3 0 rfl rfl b1253 dX8_readSign_64 ?_
            refine lv_aload_n hx hb dX8_readSign_65 rfl (lv_at hl 4 rfl) ?_
            refine lv_aload_n hx hb dX8_readSign_66 rfl (lv_at hl 4 rfl) ?_
            refine va_get (D := D) (ci := 8) (v := .int o_L_L14.1) (C := RX8) (T := TX8) (N := 48) hx hb hts layX8 hown hK hP 0 rfl rfl 6 (by decide) (hts _ (inA q984)) (fun _ h9 => h9) rfl dX8_readSign_67 ?_
            refine lv_iconst (v := 1) hx hb dX8_readSign_70 (by decide) ?_
            refine lv_iadd hx hb dX8_readSign_71 ?_
            obtain ⟨r1254, hcr1254, hM⟩ := ob_use hM
            refine cl_V (As := [.int (o_L_L14.1 + 1)]) (rest := [.int (o_C_L14.2.2.1 ((2 * v3_L14) + 1).toNatClampNeg)]) (wM0 ad o_X_L14 o_L_L14 o_N o_T o_U o_O o_E o_Q o_V o_I ++ wMC cI ad o_C_L14 ++ wMX cI ad o_X_L14) (.int r1254 :: [.int (o_C_L14.2.2.1 ((2 * v3_L14) + 1).toNatClampNeg)]) ⟨hx, hb, hml, hown, hts⟩ (c_Model_at l D cI sd ad o_C_L14 o_L_L14 o_N o_T o_U o_O o_E o_Q o_V o_I o_X_L14 (o_L_L14.1 + 1) r1254 hcr1254) (cwV2 hts q1159 mvX8_at rfl rfl ⟨(Nat.le_of_ble_eq_true rfl), (Nat.le_of_ble_eq_true rfl)⟩) hK hE hA hP hD hS 0 (T := TX8) (N := 48) (ci := 8) rfl rfl [0, 5] rfl (by decide) rfl rfl rfl rfl rfl rfl hl.1 (Nat.le_of_ble_eq_true rfl) dX8_readSign_72 ⟨Nat.zero_le _, Nat.zero_le _⟩ (fun H locs hP hD hS => ?_)
            refine lv_icmp_ne (tgt := 82) hx hb dX8_readSign_75 (by decide) (fun c1255 => ?_) (fun c1255 => ?_)
            · replace hM := if_f c1255 hM
              refine lv_iload_n hx hb dX8_readSign_82 rfl (lv_at hl 2 rfl) ?_
              refine lv_istore_n (lv' := [(2, .int v2_L14), (4, .int 1), (3, .int v3_L14), (1, .int w1_L14), (0, .ref (ad 100))]) hx hb dX8_readSign_83 rfl hl (by decide) rfl (fun ls hl => ?_)
              obtain ⟨x1256, ex1256⟩ : ∃ y : Int32, y = v3_L14 + (-1) := ⟨_, rfl⟩
              replace hM := nm_use ex1256 hM
              refine lv_iinc (v := x1256) (lv' := [(3, .int x1256), (2, .int v2_L14), (4, .int 1), (1, .int w1_L14), (0, .ref (ad 100))]) hx hb dX8_readSign_84 hl (k := 2) rfl (by rw [ex1256]; rfl) (by decide) rfl (fun ls hl => ?_)
              refine lv_goto (tgt := 14) hx hb dX8_readSign_87 (by decide) ?_
              exact ih_L14 x1256 v2_L14 out_L14 _ _ _ hM hP hD hS (lv_sub hl [0, 1, 3, 4] rfl) kx_L14
            · replace hM := if_t c1255 hM
              refine lv_iload_n hx hb dX8_readSign_78 rfl (lv_at hl 1 rfl) ?_
              refine lv_goto (tgt := 83) hx hb dX8_readSign_79 (by decide) ?_
              refine lv_istore_n (lv' := [(2, .int v3_L14), (4, .int 1), (3, .int v3_L14), (1, .int w1_L14), (0, .ref (ad 100))]) hx hb dX8_readSign_83 rfl hl (by decide) rfl (fun ls hl => ?_)
              obtain ⟨x1257, ex1257⟩ : ∃ y : Int32, y = v3_L14 + (-1) := ⟨_, rfl⟩
              replace hM := nm_use ex1257 hM
              refine lv_iinc (v := x1257) (lv' := [(3, .int x1257), (2, .int v3_L14), (4, .int 1), (1, .int w1_L14), (0, .ref (ad 100))]) hx hb dX8_readSign_84 hl (k := 2) rfl (by rw [ex1257]; rfl) (by decide) rfl (fun ls hl => ?_)
              refine lv_goto (tgt := 14) hx hb dX8_readSign_87 (by decide) ?_
              exact ih_L14 x1257 v3_L14 out_L14 _ _ _ hM hP hD hS (lv_sub hl [0, 1, 3, 4] rfl) kx_L14
  obtain ⟨r2, hcr2, hM⟩ := ob_use hM
  refine lp_L14 r1 o_C o_X o_L FU 21 (-1) r2 _ _ _ hcr2 hP hD hS (lv_sub hl [0, 1, 2, 3] rfl) (fun H locs ls hP hD hS hl => ?_)
  refine lv_iload_n hx hb dX8_readSign_90 rfl (lv_at hl 0 rfl) ?_
  refine lv_if_ge (tgt := 104) hx hb dX8_readSign_91 (by decide) (fun c3 => ?_) (fun c3 => ?_)
  · replace hM := if_t c3 hM
    refine lv_aload_n hx hb dX8_readSign_104 rfl (lv_at hl 2 rfl) ?_
    refine lv_bipush (v := 50) hx hb dX8_readSign_105 (by decide) ?_
    refine lv_iload_n hx hb dX8_readSign_107 rfl (lv_at hl 0 rfl) ?_
    refine lv_iadd hx hb dX8_readSign_108 ?_
    refine va_put (D := D) (ci := 8) (v := .int (50 + r2)) (ty := .int) (C := RX8) (T := TX8) (N := 48) hx hb hts layX8 tyX8 tyX8_ok nmX8 hown hK hP hD hS 0 rfl rfl 7 (by decide) (hts _ (inA q985)) (fun _ h9 => h9) rfl (by decide +kernel) rfl rfl (Nat.le_of_ble_eq_true rfl) dX8_readSign_109 (fun H locs hP hD hS => ?_)
    have hP : va_P D vwCl (wM0 ad o_X (o_L.1, 50 + r2, o_L.2.2) o_N o_T o_U o_O o_E o_Q o_V o_I ++ wMC cI ad o_C ++ wMX cI ad o_X) H := hP
    have hD : va_D A (wM0 ad o_X (o_L.1, 50 + r2, o_L.2.2) o_N o_T o_U o_O o_E o_Q o_V o_I ++ wMC cI ad o_C ++ wMX cI ad o_X) := hD
    refine lv_aload_n hx hb dX8_readSign_112 rfl (lv_at hl 2 rfl) ?_
    refine lv_aload_n hx hb dX8_readSign_113 rfl (lv_at hl 2 rfl) ?_
    refine va_get (D := D) (ci := 8) (v := .int o_L.1) (C := RX8) (T := TX8) (N := 48) hx hb hts layX8 hown hK hP 0 rfl rfl 6 (by decide) (hts _ (inA q984)) (fun _ h9 => h9) rfl dX8_readSign_114 ?_
    refine lv_aload_n hx hb dX8_readSign_117 rfl (lv_at hl 2 rfl) ?_
    refine va_get (D := D) (ci := 8) (v := .ref (ad 103)) (C := RX8) (T := TX8) (N := 48) hx hb hts layX8 hown hK hP 0 rfl rfl 2 (by decide) (hts _ (inA q980)) (fun _ h9 => h9) rfl dX8_readSign_118 ?_
    refine lv_iconst (v := 2) hx hb dX8_readSign_121 (by decide) ?_
    refine lv_iload_n hx hb dX8_readSign_122 rfl (lv_at hl 0 rfl) ?_
    refine lv_imul hx hb dX8_readSign_123 ?_
    refine lv_iconst (v := 1) hx hb dX8_readSign_124 (by decide) ?_
    refine lv_iadd hx hb dX8_readSign_125 ?_
    obtain ⟨b4, hM⟩ := gd_use hM
    refine va_iald hx hb hK hP 3 0 rfl rfl b4 dX8_readSign_126 ?_
    refine lv_if_eq (tgt := 134) hx hb dX8_readSign_127 (by decide) (fun c5 => ?_) (fun c5 => ?_)
    · replace hM := if_t c5 hM
      refine lv_iconst (v := 1) hx hb dX8_readSign_134 (by decide) ?_
      refine lv_iadd hx hb dX8_readSign_135 ?_
      refine va_put (D := D) (ci := 8) (v := .int (o_L.1 + 1)) (ty := .int) (C := RX8) (T := TX8) (N := 48) hx hb hts layX8 tyX8 tyX8_ok nmX8 hown hK hP hD hS 0 rfl rfl 9 (by decide) (hts _ (inA q987)) (fun _ h9 => h9) rfl (by decide +kernel) rfl rfl (Nat.le_of_ble_eq_true rfl) dX8_readSign_136 (fun H locs hP hD hS => ?_)
      have hP : va_P D vwCl (wM0 ad o_X (o_L.1, 50 + r2, o_L.2.2.1, o_L.1 + 1, o_L.2.2.2.2) o_N o_T o_U o_O o_E o_Q o_V o_I ++ wMC cI ad o_C ++ wMX cI ad o_X) H := hP
      have hD : va_D A (wM0 ad o_X (o_L.1, 50 + r2, o_L.2.2.1, o_L.1 + 1, o_L.2.2.2.2) o_N o_T o_U o_O o_E o_Q o_V o_I ++ wMC cI ad o_C ++ wMX cI ad o_X) := hD
      cases hM
      exact rt_v hx hb hr hlk hP hD hS rfl dX8_readSign_139
    · replace hM := if_f c5 hM
      refine lv_iconst (v := 2) hx hb dX8_readSign_130 (by decide) ?_
      refine lv_goto (tgt := 135) hx hb dX8_readSign_131 (by decide) ?_
      refine lv_iadd hx hb dX8_readSign_135 ?_
      refine va_put (D := D) (ci := 8) (v := .int (o_L.1 + 2)) (ty := .int) (C := RX8) (T := TX8) (N := 48) hx hb hts layX8 tyX8 tyX8_ok nmX8 hown hK hP hD hS 0 rfl rfl 9 (by decide) (hts _ (inA q987)) (fun _ h9 => h9) rfl (by decide +kernel) rfl rfl (Nat.le_of_ble_eq_true rfl) dX8_readSign_136 (fun H locs hP hD hS => ?_)
      have hP : va_P D vwCl (wM0 ad o_X (o_L.1, 50 + r2, o_L.2.2.1, o_L.1 + 2, o_L.2.2.2.2) o_N o_T o_U o_O o_E o_Q o_V o_I ++ wMC cI ad o_C ++ wMX cI ad o_X) H := hP
      have hD : va_D A (wM0 ad o_X (o_L.1, 50 + r2, o_L.2.2.1, o_L.1 + 2, o_L.2.2.2.2) o_N o_T o_U o_O o_E o_Q o_V o_I ++ wMC cI ad o_C ++ wMX cI ad o_X) := hD
      cases hM
      exact rt_v hx hb hr hlk hP hD hS rfl dX8_readSign_139
  · replace hM := if_f c3 hM
    refine lv_aload_n hx hb dX8_readSign_94 rfl (lv_at hl 2 rfl) ?_
    refine lv_iconst (v := 1) hx hb dX8_readSign_95 (by decide) ?_
    refine lv_aload_n hx hb dX8_readSign_96 rfl (lv_at hl 2 rfl) ?_
    refine va_get (D := D) (ci := 8) (v := .int o_L.1) (C := RX8) (T := TX8) (N := 48) hx hb hts layX8 hown hK hP 0 rfl rfl 6 (by decide) (hts _ (inA q984)) (fun _ h9 => h9) rfl dX8_readSign_97 ?_
    obtain ⟨r6, hcr6, hM⟩ := ob_use hM
    refine cl_V (As := [.int 1, .int o_L.1]) (rest := []) (wM0 ad o_X r6 o_N o_T o_U o_O o_E o_Q o_V o_I ++ wMC cI ad o_C ++ wMX cI ad o_X) [] ⟨hx, hb, hml, hown, hts⟩ (c_Model_fail l D cI sd ad o_C o_X o_N o_T o_U o_O o_E o_Q o_V o_I o_L 1 o_L.1 r6 hcr6) (cwV2 hts q1163 mvX8_fail rfl rfl ⟨(Nat.le_of_ble_eq_true rfl), (Nat.le_of_ble_eq_true rfl)⟩) hK hE hA hP hD hS 0 (T := TX8) (N := 48) (ci := 8) rfl rfl [0] rfl (by decide) rfl rfl rfl rfl rfl rfl hl.1 (Nat.le_of_ble_eq_true rfl) dX8_readSign_100 ⟨Nat.zero_le _, Nat.zero_le _⟩ (fun H locs hP hD hS => ?_)
    cases hM
    exact rt_v hx hb hr hlk hP hD hS rfl dX8_readSign_103

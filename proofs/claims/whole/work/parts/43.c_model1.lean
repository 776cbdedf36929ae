set_option maxHeartbeats 4000000 in
set_option maxRecDepth 100000 in
theorem c_Model_isLetter (l : Launch) (D : va_G) (cI : ClassId) (sd : Nat → Nat) (ad : Nat → Nat) (a1 : Int32) (res : Int32) (hM : f_Model_isLetter a1 = some res) : Ctr l D cI sd yX8_isLetter (wsM yX8_isLetter cX8_isLetter 1 (Option.some Jvm.ClassFile.FieldType.boolean)) { frames := 0, cells := 0, slots := 0, locals := 0 } [.int a1] (([] : va_W)) (([] : va_W)) (some (.int res)) := by
  refine Ctr.of (cc := cX8_isLetter) (maxL := 1) (own := RX8) (by decide +kernel) rfl rfl (Nat.le_of_ble_eq_true rfl) ?_
  intro p e s m below meth c A ls hx hb hr hml hown hts hlk hK hE hA hP hD hS hl
  have hl : lv_has ls 1 [(0, .int a1)] := hl
  unfold f_Model_isLetter at hM
  refine lv_iload_n hx hb dX8_isLetter_0 rfl (lv_at hl 0 rfl) ?_
  refine lv_bipush (v := 65) hx hb dX8_isLetter_1 (by decide) ?_
  refine lv_icmp_lt (tgt := 12) hx hb dX8_isLetter_3 (by decide) (fun c1 => ?_) (fun c1 => ?_)
  · replace hM := if_t c1 hM
    refine lv_iload_n hx hb dX8_isLetter_12 rfl (lv_at hl 0 rfl) ?_
    refine lv_bipush (v := 97) hx hb dX8_isLetter_13 (by decide) ?_
    refine lv_icmp_lt (tgt := 24) hx hb dX8_isLetter_15 (by decide) (fun c2 => ?_) (fun c2 => ?_)
    · replace hM := if_t c2 hM
      refine lv_iload_n hx hb dX8_isLetter_24 rfl (lv_at hl 0 rfl) ?_
      refine lv_bipush (v := 95) hx hb dX8_isLetter_25 (by decide) ?_
      refine lv_icmp_ne (tgt := 34) hx hb dX8_isLetter_27 (by decide) (fun c3 => ?_) (fun c3 => ?_)
      · replace hM := if_f c3 hM
        refine lv_iconst (v := 0) hx hb dX8_isLetter_34 (by decide) ?_
        cases hM
        exact rt_z hx hb hr hlk (by decide) hP hD hS rfl dX8_isLetter_35
      · replace hM := if_t c3 hM
        refine lv_iconst (v := 1) hx hb dX8_isLetter_30 (by decide) ?_
        refine lv_goto (tgt := 35) hx hb dX8_isLetter_31 (by decide) ?_
        cases hM
        exact rt_z hx hb hr hlk (by decide) hP hD hS rfl dX8_isLetter_35
    · replace hM := if_f c2 hM
      refine lv_iload_n hx hb dX8_isLetter_18 rfl (lv_at hl 0 rfl) ?_
      refine lv_bipush (v := 122) hx hb dX8_isLetter_19 (by decide) ?_
      refine lv_icmp_le (tgt := 30) hx hb dX8_isLetter_21 (by decide) (fun c4 => ?_) (fun c4 => ?_)
      · replace hM := if_t c4 hM
        refine lv_iconst (v := 1) hx hb dX8_isLetter_30 (by decide) ?_
        refine lv_goto (tgt := 35) hx hb dX8_isLetter_31 (by decide) ?_
        cases hM
        exact rt_z hx hb hr hlk (by decide) hP hD hS rfl dX8_isLetter_35
      · replace hM := if_f c4 hM
        refine lv_iload_n hx hb dX8_isLetter_24 rfl (lv_at hl 0 rfl) ?_
        refine lv_bipush (v := 95) hx hb dX8_isLetter_25 (by decide) ?_
        refine lv_icmp_ne (tgt := 34) hx hb dX8_isLetter_27 (by decide) (fun c5 => ?_) (fun c5 => ?_)
        · replace hM := if_f c5 hM
          refine lv_iconst (v := 0) hx hb dX8_isLetter_34 (by decide) ?_
          cases hM
          exact rt_z hx hb hr hlk (by decide) hP hD hS rfl dX8_isLetter_35
        · replace hM := if_t c5 hM
          refine lv_iconst (v := 1) hx hb dX8_isLetter_30 (by decide) ?_
          refine lv_goto (tgt := 35) hx hb dX8_isLetter_31 (by decide) ?_
          cases hM
          exact rt_z hx hb hr hlk (by decide) hP hD hS rfl dX8_isLetter_35
  · replace hM := if_f c1 hM
    refine lv_iload_n hx hb dX8_isLetter_6 rfl (lv_at hl 0 rfl) ?_
    refine lv_bipush (v := 90) hx hb dX8_isLetter_7 (by decide) ?_
    refine lv_icmp_le (tgt := 30) hx hb dX8_isLetter_9 (by decide) (fun c6 => ?_) (fun c6 => ?_)
    · replace hM := if_t c6 hM
      refine lv_iconst (v := 1) hx hb dX8_isLetter_30 (by decide) ?_
      refine lv_goto (tgt := 35) hx hb dX8_isLetter_31 (by decide) ?_
      cases hM
      exact rt_z hx hb hr hlk (by decide) hP hD hS rfl dX8_isLetter_35
    · replace hM := if_f c6 hM
      refine lv_iload_n hx hb dX8_isLetter_12 rfl (lv_at hl 0 rfl) ?_
      refine lv_bipush (v := 97) hx hb dX8_isLetter_13 (by decide) ?_
      refine lv_icmp_lt (tgt := 24) hx hb dX8_isLetter_15 (by decide) (fun c7 => ?_) (fun c7 => ?_)
      · replace hM := if_t c7 hM
        refine lv_iload_n hx hb dX8_isLetter_24 rfl (lv_at hl 0 rfl) ?_
        refine lv_bipush (v := 95) hx hb dX8_isLetter_25 (by decide) ?_
        refine lv_icmp_ne (tgt := 34) hx hb dX8_isLetter_27 (by decide) (fun c8 => ?_) (fun c8 => ?_)
        · replace hM := if_f c8 hM
          refine lv_iconst (v := 0) hx hb dX8_isLetter_34 (by decide) ?_
          cases hM
          exact rt_z hx hb hr hlk (by decide) hP hD hS rfl dX8_isLetter_35
        · replace hM := if_t c8 hM
          refine lv_iconst (v := 1) hx hb dX8_isLetter_30 (by decide) ?_
          refine lv_goto (tgt := 35) hx hb dX8_isLetter_31 (by decide) ?_
          cases hM
          exact rt_z hx hb hr hlk (by decide) hP hD hS rfl dX8_isLetter_35
      · replace hM := if_f c7 hM
        refine lv_iload_n hx hb dX8_isLetter_18 rfl (lv_at hl 0 rfl) ?_
        refine lv_bipush (v := 122) hx hb dX8_isLetter_19 (by decide) ?_
        refine lv_icmp_le (tgt := 30) hx hb dX8_isLetter_21 (by decide) (fun c9 => ?_) (fun c9 => ?_)
        · replace hM := if_t c9 hM
          refine lv_iconst (v := 1) hx hb dX8_isLetter_30 (by decide) ?_
          refine lv_goto (tgt := 35) hx hb dX8_isLetter_31 (by decide) ?_
          cases hM
          exact rt_z hx hb hr hlk (by decide) hP hD hS rfl dX8_isLetter_35
        · replace hM := if_f c9 hM
          refine lv_iload_n hx hb dX8_isLetter_24 rfl (lv_at hl 0 rfl) ?_
          refine lv_bipush (v := 95) hx hb dX8_isLetter_25 (by decide) ?_
          refine lv_icmp_ne (tgt := 34) hx hb dX8_isLetter_27 (by decide) (fun c10 => ?_) (fun c10 => ?_)
          · replace hM := if_f c10 hM
            refine lv_iconst (v := 0) hx hb dX8_isLetter_34 (by decide) ?_
            cases hM
            exact rt_z hx hb hr hlk (by decide) hP hD hS rfl dX8_isLetter_35
          · replace hM := if_t c10 hM
            refine lv_iconst (v := 1) hx hb dX8_isLetter_30 (by decide) ?_
            refine lv_goto (tgt := 35) hx hb dX8_isLetter_31 (by decide) ?_
            cases hM
            exact rt_z hx hb hr hlk (by decide) hP hD hS rfl dX8_isLetter_35

set_option maxHeartbeats 4000000 in
set_option maxRecDepth 100000 in
theorem c_Model_isDigit (l : Launch) (D : va_G) (cI : ClassId) (sd : Nat → Nat) (ad : Nat → Nat) (a1 : Int32) (res : Int32) (hM : f_Model_isDigit a1 = some res) : Ctr l D cI sd yX8_isDigit (wsM yX8_isDigit cX8_isDigit 1 (Option.some Jvm.ClassFile.FieldType.boolean)) { frames := 0, cells := 0, slots := 0, locals := 0 } [.int a1] (([] : va_W)) (([] : va_W)) (some (.int res)) := by
  refine Ctr.of (cc := cX8_isDigit) (maxL := 1) (own := RX8) (by decide +kernel) rfl rfl (Nat.le_of_ble_eq_true rfl) ?_
  intro p e s m below meth c A ls hx hb hr hml hown hts hlk hK hE hA hP hD hS hl
  have hl : lv_has ls 1 [(0, .int a1)] := hl
  unfold f_Model_isDigit at hM
  refine lv_iload_n hx hb dX8_isDigit_0 rfl (lv_at hl 0 rfl) ?_
  refine lv_bipush (v := 48) hx hb dX8_isDigit_1 (by decide) ?_
  refine lv_icmp_lt (tgt := 16) hx hb dX8_isDigit_3 (by decide) (fun c1 => ?_) (fun c1 => ?_)
  · replace hM := if_t c1 hM
    refine lv_iconst (v := 0) hx hb dX8_isDigit_16 (by decide) ?_
    cases hM
    exact rt_z hx hb hr hlk (by decide) hP hD hS rfl dX8_isDigit_17
  · replace hM := if_f c1 hM
    refine lv_iload_n hx hb dX8_isDigit_6 rfl (lv_at hl 0 rfl) ?_
    refine lv_bipush (v := 57) hx hb dX8_isDigit_7 (by decide) ?_
    refine lv_icmp_gt (tgt := 16) hx hb dX8_isDigit_9 (by decide) (fun c2 => ?_) (fun c2 => ?_)
    · replace hM := if_t c2 hM
      refine lv_iconst (v := 0) hx hb dX8_isDigit_16 (by decide) ?_
      cases hM
      exact rt_z hx hb hr hlk (by decide) hP hD hS rfl dX8_isDigit_17
    · replace hM := if_f c2 hM
      refine lv_iconst (v := 1) hx hb dX8_isDigit_12 (by decide) ?_
      refine lv_goto (tgt := 17) hx hb dX8_isDigit_13 (by decide) ?_
      cases hM
      exact rt_z hx hb hr hlk (by decide) hP hD hS rfl dX8_isDigit_17

set_option maxHeartbeats 4000000 in
set_option maxRecDepth 100000 in
theorem c_Model_great (l : Launch) (D : va_G) (cI : ClassId) (sd : Nat → Nat) (ad : Nat → Nat) (a1 : Int32) (res : Int32) (hM : f_Model_great a1 = some res) : Ctr l D cI sd yX8_great (wsM yX8_great cX8_great 1 (Option.some Jvm.ClassFile.FieldType.int)) { frames := 0, cells := 0, slots := 0, locals := 0 } [.int a1] (([] : va_W)) (([] : va_W)) (some (.int res)) := by
  refine Ctr.of (cc := cX8_great) (maxL := 1) (own := RX8) (by decide +kernel) rfl rfl (Nat.le_of_ble_eq_true rfl) ?_
  intro p e s m below meth c A ls hx hb hr hml hown hts hlk hK hE hA hP hD hS hl
  have hl : lv_has ls 1 [(0, .int a1)] := hl
  unfold f_Model_great at hM
  refine lv_iload_n hx hb dX8_great_0 rfl (lv_at hl 0 rfl) ?_
  refine lv_bipush (v := 97) hx hb dX8_great_1 (by decide) ?_
  refine lv_icmp_lt (tgt := 19) hx hb dX8_great_3 (by decide) (fun c1 => ?_) (fun c1 => ?_)
  · replace hM := if_t c1 hM
    refine lv_iload_n hx hb dX8_great_19 rfl (lv_at hl 0 rfl) ?_
    cases hM
    exact rt_i hx hb hr hlk hP hD hS rfl dX8_great_20
  · replace hM := if_f c1 hM
    refine lv_iload_n hx hb dX8_great_6 rfl (lv_at hl 0 rfl) ?_
    refine lv_bipush (v := 122) hx hb dX8_great_7 (by decide) ?_
    refine lv_icmp_gt (tgt := 19) hx hb dX8_great_9 (by decide) (fun c2 => ?_) (fun c2 => ?_)
    · replace hM := if_t c2 hM
      refine lv_iload_n hx hb dX8_great_19 rfl (lv_at hl 0 rfl) ?_
      cases hM
      exact rt_i hx hb hr hlk hP hD hS rfl dX8_great_20
    · replace hM := if_f c2 hM
      refine lv_iload_n hx hb dX8_great_12 rfl (lv_at hl 0 rfl) ?_
      refine lv_bipush (v := 32) hx hb dX8_great_13 (by decide) ?_
      refine lv_isub hx hb dX8_great_15 ?_
      refine lv_goto (tgt := 20) hx hb dX8_great_16 (by decide) ?_
      cases hM
      exact rt_i hx hb hr hlk hP hD hS rfl dX8_great_20

set_option maxHeartbeats 4000000 in
set_option maxRecDepth 100000 in
theorem c_Model_at (l : Launch) (D : va_G) (cI : ClassId) (sd : Nat → Nat) (ad : Nat → Nat) (o_C : S_MC) (o_L : S_ML) (o_N : S_MN) (o_T : S_MT) (o_U : S_MU) (o_O : S_MO) (o_E : S_ME) (o_Q : S_MQ) (o_V : S_MV) (o_I : S_MI) (o_X : S_MX) (a1 : Int32) (res : Int32) (hM : f_Model_at o_X a1 = some res) : Ctr l D cI sd yX8_at (wsM yX8_at cX8_at 2 (Option.some Jvm.ClassFile.FieldType.int)) { frames := 0, cells := 0, slots := 0, locals := 0 } [.ref (ad 100), .int a1] (wM0 ad o_X o_L o_N o_T o_U o_O o_E o_Q o_V o_I ++ wMX cI ad o_X) (wM0 ad o_X o_L o_N o_T o_U o_O o_E o_Q o_V o_I ++ wMX cI ad o_X) (some (.int res)) := by
  refine Ctr.of (cc := cX8_at) (maxL := 2) (own := RX8) (by decide +kernel) rfl rfl (Nat.le_of_ble_eq_true rfl) ?_
  intro p e s m below meth c A ls hx hb hr hml hown hts hlk hK hE hA hP hD hS hl
  have hl : lv_has ls 2 [(0, .ref (ad 100)), (1, .int a1)] := hl
  unfold f_Model_at at hM
  refine lv_iload_n hx hb dX8_at_0 rfl (lv_at hl 1 rfl) ?_
  refine lv_aload_n hx hb dX8_at_1 rfl (lv_at hl 0 rfl) ?_
  refine va_get (D := D) (ci := 8) (v := .int o_X.1) (C := RX8) (T := TX8) (N := 48) hx hb hts layX8 hown hK hP 0 rfl rfl 4 (by decide) (hts _ (inA q982)) (fun _ h9 => h9) rfl dX8_at_2 ?_
  refine lv_icmp_ge (tgt := 17) hx hb dX8_at_5 (by decide) (fun c1 => ?_) (fun c1 => ?_)
  · replace hM := if_t c1 hM
    refine lv_iconst (v := (-1)) hx hb dX8_at_17 (by decide) ?_
    cases hM
    exact rt_i hx hb hr hlk hP hD hS rfl dX8_at_18
  · replace hM := if_f c1 hM
    refine lv_aload_n hx hb dX8_at_8 rfl (lv_at hl 0 rfl) ?_
    refine va_get (D := D) (ci := 8) (v := .ref (ad 105)) (C := RX8) (T := TX8) (N := 48) hx hb hts layX8 hown hK hP 0 rfl rfl 5 (by decide) (hts _ (inA q983)) (fun _ h9 => h9) rfl dX8_at_9 ?_
    refine lv_iload_n hx hb dX8_at_12 rfl (lv_at hl 1 rfl) ?_
    obtain ⟨b2, hM⟩ := gd_use hM
    refine va_iald hx hb hK hP 1 0 rfl rfl b2 dX8_at_13 ?_
    refine lv_goto (tgt := 18) hx hb dX8_at_14 (by decide) ?_
    cases hM
    exact rt_i hx hb hr hlk hP hD hS rfl dX8_at_18

set_option maxHeartbeats 4000000 in
set_option maxRecDepth 100000 in
theorem c_Model_goesOn (l : Launch) (D : va_G) (cI : ClassId) (sd : Nat → Nat) (ad : Nat → Nat) (o_C : S_MC) (o_L : S_ML) (o_N : S_MN) (o_T : S_MT) (o_U : S_MU) (o_O : S_MO) (o_E : S_ME) (o_Q : S_MQ) (o_V : S_MV) (o_I : S_MI) (o_X : S_MX) (a1 : Int32) (res : Int32) (hM : f_Model_goesOn o_X a1 = some res) : Ctr l D cI sd yX8_goesOn (wsM yX8_goesOn cX8_goesOn 2 (Option.some Jvm.ClassFile.FieldType.boolean)) { frames := 1, cells := 0, slots := 0, locals := 21 } [.ref (ad 100), .int a1] (wM0 ad o_X o_L o_N o_T o_U o_O o_E o_Q o_V o_I ++ wMX cI ad o_X) (wM0 ad o_X o_L o_N o_T o_U o_O o_E o_Q o_V o_I ++ wMX cI ad o_X) (some (.int res)) := by
  refine Ctr.of (cc := cX8_goesOn) (maxL := 2) (own := RX8) (by decide +kernel) rfl rfl (Nat.le_of_ble_eq_true rfl) ?_
  intro p e s m below meth c A ls hx hb hr hml hown hts hlk hK hE hA hP hD hS hl
  have hl : lv_has ls 2 [(0, .ref (ad 100)), (1, .int a1)] := hl
  unfold f_Model_goesOn at hM
  refine lv_aload_n hx hb dX8_goesOn_0 rfl (lv_at hl 0 rfl) ?_
  refine lv_iload_n hx hb dX8_goesOn_1 rfl (lv_at hl 1 rfl) ?_
  obtain ⟨r1, hcr1, hM⟩ := ob_use hM
  refine cl_V (As := [.int a1]) (rest := []) (wM0 ad o_X o_L o_N o_T o_U o_O o_E o_Q o_V o_I ++ wMX cI ad o_X) (.int r1 :: []) ⟨hx, hb, hml, hown, hts⟩ (c_Model_at l D cI sd ad o_C o_L o_N o_T o_U o_O o_E o_Q o_V o_I o_X a1 r1 hcr1) (cwV2 hts q1159 mvX8_at rfl rfl ⟨(Nat.le_of_ble_eq_true rfl), (Nat.le_of_ble_eq_true rfl)⟩) hK hE hA hP hD hS 0 (T := TX8) (N := 48) (ci := 8) rfl rfl [0, 1] rfl (by decide) rfl rfl rfl rfl rfl rfl hl.1 (Nat.le_of_ble_eq_true rfl) dX8_goesOn_2 ⟨Nat.zero_le _, Nat.zero_le _⟩ (fun H locs hP hD hS => ?_)
  obtain ⟨r2, hcr2, hM⟩ := ob_use hM
  refine cl_S (As := [.int r1]) (rest := []) (wM0 ad o_X o_L o_N o_T o_U o_O o_E o_Q o_V o_I ++ wMX cI ad o_X) (.int r2 :: []) ⟨hx, hb, hml, hown, hts⟩ (c_Model_isLetter l D cI sd ad r1 r2 hcr2) (cwS2 hts q1199 mvX8_isLetter rfl rfl ⟨(Nat.le_of_ble_eq_true rfl), (Nat.le_of_ble_eq_true rfl)⟩) hK hE hA hP hD hS [] rfl (by decide) rfl rfl rfl rfl rfl rfl hl.1 (Nat.le_of_ble_eq_true rfl) dX8_goesOn_5 ⟨Nat.zero_le _, Nat.zero_le _⟩ (fun H locs hP hD hS => ?_)
  refine lv_if_ne (tgt := 22) hx hb dX8_goesOn_8 (by decide) (fun c3 => ?_) (fun c3 => ?_)
  · replace hM := if_f c3 hM
    refine lv_iconst (v := 1) hx hb dX8_goesOn_22 (by decide) ?_
    refine lv_goto (tgt := 27) hx hb dX8_goesOn_23 (by decide) ?_
    cases hM
    exact rt_z hx hb hr hlk (by decide) hP hD hS rfl dX8_goesOn_27
  · replace hM := if_t c3 hM
    refine lv_aload_n hx hb dX8_goesOn_11 rfl (lv_at hl 0 rfl) ?_
    refine lv_iload_n hx hb dX8_goesOn_12 rfl (lv_at hl 1 rfl) ?_
    obtain ⟨r4, hcr4, hM⟩ := ob_use hM
    refine cl_V (As := [.int a1]) (rest := []) (wM0 ad o_X o_L o_N o_T o_U o_O o_E o_Q o_V o_I ++ wMX cI ad o_X) (.int r4 :: []) ⟨hx, hb, hml, hown, hts⟩ (c_Model_at l D cI sd ad o_C o_L o_N o_T o_U o_O o_E o_Q o_V o_I o_X a1 r4 hcr4) (cwV2 hts q1159 mvX8_at rfl rfl ⟨(Nat.le_of_ble_eq_true rfl), (Nat.le_of_ble_eq_true rfl)⟩) hK hE hA hP hD hS 0 (T := TX8) (N := 48) (ci := 8) rfl rfl [0, 1] rfl (by decide) rfl rfl rfl rfl rfl rfl hl.1 (Nat.le_of_ble_eq_true rfl) dX8_goesOn_13 ⟨Nat.zero_le _, Nat.zero_le _⟩ (fun H locs hP hD hS => ?_)
    obtain ⟨r5, hcr5, hM⟩ := ob_use hM
    refine cl_S (As := [.int r4]) (rest := []) (wM0 ad o_X o_L o_N o_T o_U o_O o_E o_Q o_V o_I ++ wMX cI ad o_X) (.int r5 :: []) ⟨hx, hb, hml, hown, hts⟩ (c_Model_isDigit l D cI sd ad r4 r5 hcr5) (cwS2 hts q1181 mvX8_isDigit rfl rfl ⟨(Nat.le_of_ble_eq_true rfl), (Nat.le_of_ble_eq_true rfl)⟩) hK hE hA hP hD hS [] rfl (by decide) rfl rfl rfl rfl rfl rfl hl.1 (Nat.le_of_ble_eq_true rfl) dX8_goesOn_16 ⟨Nat.zero_le _, Nat.zero_le _⟩ (fun H locs hP hD hS => ?_)
    refine lv_if_eq (tgt := 26) hx hb dX8_goesOn_19 (by decide) (fun c6 => ?_) (fun c6 => ?_)
    · replace hM := if_t c6 hM
      refine lv_iconst (v := 0) hx hb dX8_goesOn_26 (by decide) ?_
      cases hM
      exact rt_z hx hb hr hlk (by decide) hP hD hS rfl dX8_goesOn_27
    · replace hM := if_f c6 hM
      refine lv_iconst (v := 1) hx hb dX8_goesOn_22 (by decide) ?_
      refine lv_goto (tgt := 27) hx hb dX8_goesOn_23 (by decide) ?_
      cases hM
      exact rt_z hx hb hr hlk (by decide) hP hD hS rfl dX8_goesOn_27

set_option maxHeartbeats 4000000 in
set_option maxRecDepth 100000 in
theorem c_Model_clear (l : Launch) (D : va_G) (cI : ClassId) (sd : Nat → Nat) (ad : Nat → Nat) (o_C : S_MC) (o_L : S_ML) (o_N : S_MN) (o_T : S_MT) (o_U : S_MU) (o_O : S_MO) (o_E : S_ME) (o_Q : S_MQ) (o_V : S_MV) (o_I : S_MI) (o_X : S_MX) (res : Int32 × S_MX) (hM : f_Model_clear o_X = some res) : Ctr l D cI sd yX8_clear (wsM yX8_clear cX8_clear 2 (Option.some Jvm.ClassFile.FieldType.int)) { frames := 0, cells := 0, slots := 0, locals := 0 } [.ref (ad 100)] (wM0 ad o_X o_L o_N o_T o_U o_O o_E o_Q o_V o_I ++ wMX cI ad o_X) (wM0 ad res.2 o_L o_N o_T o_U o_O o_E o_Q o_V o_I ++ wMX cI ad res.2) (some (.int res.1)) := by
  refine Ctr.of (cc := cX8_clear) (maxL := 2) (own := RX8) (by decide +kernel) rfl rfl (Nat.le_of_ble_eq_true rfl) ?_
  intro p e s m below meth c A ls hx hb hr hml hown hts hlk hK hE hA hP hD hS hl
  have hl : lv_has ls 2 [(0, .ref (ad 100))] := hl
  unfold f_Model_clear at hM
  refine lv_aload_n hx hb dX8_clear_0 rfl (lv_at hl 0 rfl) ?_
  refine va_get (D := D) (ci := 8) (v := .int o_X.1) (C := RX8) (T := TX8) (N := 48) hx hb hts layX8 hown hK hP 0 rfl rfl 4 (by decide) (hts _ (inA q982)) (fun _ h9 => h9) rfl dX8_clear_1 ?_
  refine lv_istore_n (lv' := [(1, .int o_X.1), (0, .ref (ad 100))]) hx hb dX8_clear_4 rfl hl (by decide) rfl (fun ls hl => ?_)
  refine lv_aload_n hx hb dX8_clear_5 rfl (lv_at hl 1 rfl) ?_
  refine lv_iconst (v := 0) hx hb dX8_clear_6 (by decide) ?_
  refine va_put (D := D) (ci := 8) (v := .int 0) (ty := .int) (C := RX8) (T := TX8) (N := 48) hx hb hts layX8 tyX8 tyX8_ok nmX8 hown hK hP hD hS 0 rfl rfl 4 (by decide) (hts _ (inA q982)) (fun _ h9 => h9) rfl (by decide +kernel) rfl rfl (Nat.le_of_ble_eq_true rfl) dX8_clear_7 (fun H locs hP hD hS => ?_)
  have hP : va_P D vwCl (wM0 ad (0, o_X.2) o_L o_N o_T o_U o_O o_E o_Q o_V o_I ++ wMX cI ad (0, o_X.2)) H := hP
  have hD : va_D A (wM0 ad (0, o_X.2) o_L o_N o_T o_U o_O o_E o_Q o_V o_I ++ wMX cI ad (0, o_X.2)) := hD
  refine lv_iload_n hx hb dX8_clear_10 rfl (lv_at hl 0 rfl) ?_
  cases hM
  exact rt_i hx hb hr hlk hP hD hS rfl dX8_clear_11

set_option maxHeartbeats 4000000 in
set_option maxRecDepth 100000 in
theorem c_Model_feed (l : Launch) (D : va_G) (cI : ClassId) (sd : Nat → Nat) (ad : Nat → Nat) (o_C : S_MC) (o_L : S_ML) (o_N : S_MN) (o_T : S_MT) (o_U : S_MU) (o_O : S_MO) (o_E : S_ME) (o_Q : S_MQ) (o_V : S_MV) (o_I : S_MI) (o_X : S_MX) (a1 : Int32) (a2 : Int32) (a3 : Int32) (a4 : Int32) (a5 : Int32) (res : Int32 × S_MX) (hM : f_Model_feed o_X a1 a2 a3 a4 a5 = some res) : Ctr l D cI sd yX8_feed (wsM yX8_feed cX8_feed 8 (Option.some Jvm.ClassFile.FieldType.int)) { frames := 0, cells := 0, slots := 0, locals := 0 } [.ref (ad 100), .int a1, .int a2, .int a3, .int a4, .int a5] (wM0 ad o_X o_L o_N o_T o_U o_O o_E o_Q o_V o_I ++ wMX cI ad o_X) (wM0 ad res.2 o_L o_N o_T o_U o_O o_E o_Q o_V o_I ++ wMX cI ad res.2) (some (.int res.1)) := by
  refine Ctr.of (cc := cX8_feed) (maxL := 8) (own := RX8) (by decide +kernel) rfl rfl (Nat.le_of_ble_eq_true rfl) ?_
  intro p e s m below meth c A ls hx hb hr hml hown hts hlk hK hE hA hP hD hS hl
  have hl : lv_has ls 8 [(0, .ref (ad 100)), (1, .int a1), (2, .int a2), (3, .int a3), (4, .int a4), (5, .int a5)] := hl
  unfold f_Model_feed at hM
  refine lv_aload_n hx hb dX8_feed_0 rfl (lv_at hl 0 rfl) ?_
  refine va_get (D := D) (ci := 8) (v := .int o_X.1) (C := RX8) (T := TX8) (N := 48) hx hb hts layX8 hown hK hP 0 rfl rfl 4 (by decide) (hts _ (inA q982)) (fun _ h9 => h9) rfl dX8_feed_1 ?_
  refine lv_bipush (v := 20) hx hb dX8_feed_4 (by decide) ?_
  refine lv_iadd hx hb dX8_feed_6 ?_
  refine lv_sipush (v := 8192) hx hb dX8_feed_7 (by decide) ?_
  refine lv_icmp_le (tgt := 15) hx hb dX8_feed_10 (by decide) (fun c1 => ?_) (fun c1 => ?_)
  · replace hM := if_t c1 hM
    refine lv_iconst (v := 0) hx hb dX8_feed_15 (by decide) ?_
    refine lv_istore (lv' := [(6, .int 0), (0, .ref (ad 100)), (1, .int a1), (2, .int a2), (3, .int a3), (4, .int a4), (5, .int a5)]) hx hb dX8_feed_16 hl (by decide) rfl (fun ls hl => ?_)
    have lp_L18 : ∀ (w1_L18 : Int32) (w2_L18 : Int32) (w3_L18 : Int32) (w4_L18 : Int32) (w5_L18 : Int32) (n : Nat) (v6_L18 : Int32) (o_X_L18 : S_MX) (out_L18 : S_MX) (H : Heap) (locs : List Loc) (ls : Array Slot), f_Model_feed_L18 w1_L18 w2_L18 w3_L18 w4_L18 w5_L18 n v6_L18 o_X_L18 = some out_L18 → va_P D vwCl (wM0 ad o_X_L18 o_L o_N o_T o_U o_O o_E o_Q o_V o_I ++ wMX cI ad o_X_L18) H → va_D A (wM0 ad o_X_L18 o_L o_N o_T o_U o_O o_E o_Q o_V o_I ++ wMX cI ad o_X_L18) → va_S A s.heap H locs → lv_has ls 8 [(6, .int v6_L18), (0, .ref (ad 100)), (1, .int w1_L18), (2, .int w2_L18), (3, .int w3_L18), (4, .int w4_L18), (5, .int w5_L18)] → (∀ (H : Heap) (locs : List Loc) (ls : Array Slot), va_P D vwCl (wM0 ad out_L18 o_L o_N o_T o_U o_O o_E o_Q o_V o_I ++ wMX cI ad out_L18) H → va_D A (wM0 ad out_L18 o_L o_N o_T o_U o_O o_E o_Q o_V o_I ++ wMX cI ad out_L18) → va_S A s.heap H locs → lv_has ls 8 [(0, .ref (ad 100)), (1, .int w1_L18), (2, .int w2_L18), (3, .int w3_L18), (4, .int w4_L18), (5, .int w5_L18)] → W p l e { frames := 0, cells := 0, slots := 0, locals := 0 } s m [.ref (ad 100), .int a1, .int a2, .int a3, .int a4, .int a5].toArray below meth c H locs 0 0 (MQ below (CQ D A (wM0 ad res.2 o_L o_N o_T o_U o_O o_E o_Q o_V o_I ++ wMX cI ad res.2) (some (.int res.1))) [.ref (ad 100), .int a1, .int a2, .int a3, .int a4, .int a5].toArray s 0 0 A) (F0 m 108 ls [])) → W p l e { frames := 0, cells := 0, slots := 0, locals := 0 } s m [.ref (ad 100), .int a1, .int a2, .int a3, .int a4, .int a5].toArray below meth c H locs 0 0 (MQ below (CQ D A (wM0 ad res.2 o_L o_N o_T o_U o_O o_E o_Q o_V o_I ++ wMX cI ad res.2) (some (.int res.1))) [.ref (ad 100), .int a1, .int a2, .int a3, .int a4, .int a5].toArray s 0 0 A) (F0 m 18 ls []) := by
      intro w1_L18 w2_L18 w3_L18 w4_L18 w5_L18 n
      induction n with
      | zero => intro v6_L18 o_X_L18 out_L18 H locs ls hM; exact absurd (show none = some _ from hM) (by simp)
      | succ n ih_L18 =>
        intro v6_L18 o_X_L18 out_L18 H locs ls hM hP hD hS hl kx_L18
        rw [f_Model_feed_L18] at hM
        refine lv_iload hx hb dX8_feed_18 (lv_at hl 0 rfl) ?_
        refine lv_bipush (v := 20) hx hb dX8_feed_20 (by decide) ?_
        refine lv_icmp_ge (tgt := 108) hx hb dX8_feed_22 (by decide) (fun c1281 => ?_) (fun c1281 => ?_)
        · replace hM := if_t c1281 hM
          cases hM
          exact kx_L18 _ _ _ hP hD hS (lv_sub hl [1, 2, 3, 4, 5, 6] rfl)
        · replace hM := if_f c1281 hM
          refine lv_iload hx hb dX8_feed_25 (lv_at hl 0 rfl) ?_
          refine lv_iconst (v := 4) hx hb dX8_feed_27 (by decide) ?_
          refine lv_icmp_ge (tgt := 35) hx hb dX8_feed_28 (by decide) (fun c1282 => ?_) (fun c1282 => ?_)
          · replace hM := if_t c1282 hM
            refine lv_iload hx hb dX8_feed_35 (lv_at hl 0 rfl) ?_
            refine lv_bipush (v := 8) hx hb dX8_feed_37 (by decide) ?_
            refine lv_icmp_ge (tgt := 46) hx hb dX8_feed_39 (by decide) (fun c1283 => ?_) (fun c1283 => ?_)
            · replace hM := if_t c1283 hM
              refine lv_iload hx hb dX8_feed_46 (lv_at hl 0 rfl) ?_
              refine lv_bipush (v := 12) hx hb dX8_feed_48 (by decide) ?_
              refine lv_icmp_ge (tgt := 57) hx hb dX8_feed_50 (by decide) (fun c1284 => ?_) (fun c1284 => ?_)
              · replace hM := if_t c1284 hM
                refine lv_iload hx hb dX8_feed_57 (lv_at hl 0 rfl) ?_
                refine lv_bipush (v := 16) hx hb dX8_feed_59 (by decide) ?_
                refine lv_icmp_ge (tgt := 69) hx hb dX8_feed_61 (by decide) (fun c1285 => ?_) (fun c1285 => ?_)
                · replace hM := if_t c1285 hM
                  refine lv_iload hx hb dX8_feed_69 (lv_at hl 6 rfl) ?_
                  refine lv_istore (lv' := [(7, .int w5_L18), (6, .int v6_L18), (0, .ref (ad 100)), (1, .int w1_L18), (2, .int w2_L18), (3, .int w3_L18), (4, .int w4_L18), (5, .int w5_L18)]) hx hb dX8_feed_71 hl (by decide) rfl (fun ls hl => ?_)
                  refine lv_aload_n hx hb dX8_feed_73 rfl (lv_at hl 2 rfl) ?_
                  refine va_get (D := D) (ci := 8) (v := .ref (ad 105)) (C := RX8) (T := TX8) (N := 48) hx hb hts layX8 hown hK hP 0 rfl rfl 5 (by decide) (hts _ (inA q983)) (fun _ h9 => h9) rfl dX8_feed_74 ?_
                  refine lv_aload_n hx hb dX8_feed_77 rfl (lv_at hl 2 rfl) ?_
                  refine va_get (D := D) (ci := 8) (v := .int o_X_L18.1) (C := RX8) (T := TX8) (N := 48) hx hb hts layX8 hown hK hP 0 rfl rfl 4 (by decide) (hts _ (inA q982)) (fun _ h9 => h9) rfl dX8_feed_78 ?_
                  refine lv_iload hx hb dX8_feed_81 (lv_at hl 1 rfl) ?_
                  refine lv_iadd hx hb dX8_feed_83 ?_
                  refine lv_iload hx hb dX8_feed_84 (lv_at hl 0 rfl) ?_
                  refine lv_bipush (v := 24) hx hb dX8_feed_86 (by decide) ?_
                  refine lv_bipush (v := 8) hx hb dX8_feed_88 (by decide) ?_
                  refine lv_iload hx hb dX8_feed_90 (lv_at hl 1 rfl) ?_
                  refine lv_iconst (v := 4) hx hb dX8_feed_92 (by decide) ?_
                  refine lv_irem hx hb dX8_feed_93 (by decide) ?_
                  refine lv_imul hx hb dX8_feed_94 ?_
                  refine lv_isub hx hb dX8_feed_95 ?_
                  refine lv_ishr hx hb dX8_feed_96 ?_
                  refine lv_sipush (v := 255) hx hb dX8_feed_97 (by decide) ?_
                  refine lv_iand hx hb dX8_feed_100 ?_
                  refine lv_topi (fun x1287 ex1287 => ?_)
                  replace hM := nm_use ex1287 hM
                  obtain ⟨b1286, hM⟩ := gd_use hM
                  refine va_iast hx hb hK hP hD hS 1 0 rfl rfl b1286 dX8_feed_101 (fun H locs hP hD hS => ?_)
                  have hP : va_P D vwCl (wM0 ad (o_X_L18.1, upd o_X_L18.2 (o_X_L18.1 + v6_L18).toNatClampNeg x1287) o_L o_N o_T o_U o_O o_E o_Q o_V o_I ++ wMX cI ad (o_X_L18.1, upd o_X_L18.2 (o_X_L18.1 + v6_L18).toNatClampNeg x1287)) H := hP
                  have hD : va_D A (wM0 ad (o_X_L18.1, upd o_X_L18.2 (o_X_L18.1 + v6_L18).toNatClampNeg x1287) o_L o_N o_T o_U o_O o_E o_Q o_V o_I ++ wMX cI ad (o_X_L18.1, upd o_X_L18.2 (o_X_L18.1 + v6_L18).toNatClampNeg x1287)) := hD
                  obtain ⟨x1288, ex1288⟩ : ∃ y : Int32, y = v6_L18 + 1 := ⟨_, rfl⟩
                  replace hM := nm_use ex1288 hM
                  refine lv_iinc (v := x1288) (lv' := [(6, .int x1288), (7, .int w5_L18), (0, .ref (ad 100)), (1, .int w1_L18), (2, .int w2_L18), (3, .int w3_L18), (4, .int w4_L18), (5, .int w5_L18)]) hx hb dX8_feed_102 hl (k := 1) rfl (by rw [ex1288]; rfl) (by decide) rfl (fun ls hl => ?_)
                  refine lv_goto (tgt := 18) hx hb dX8_feed_105 (by decide) ?_
                  exact ih_L18 x1288 (o_X_L18.1, upd o_X_L18.2 (o_X_L18.1 + v6_L18).toNatClampNeg x1287) out_L18 _ _ _ hM hP hD hS (lv_sub hl [0, 2, 3, 4, 5, 6, 7] rfl) kx_L18
                · replace hM := if_f c1285 hM
                  refine lv_iload hx hb dX8_feed_64 (lv_at hl 5 rfl) ?_
                  refine lv_goto (tgt := 71) hx hb dX8_feed_66 (by decide) ?_
                  refine lv_istore (lv' := [(7, .int w4_L18), (6, .int v6_L18), (0, .ref (ad 100)), (1, .int w1_L18), (2, .int w2_L18), (3, .int w3_L18), (4, .int w4_L18), (5, .int w5_L18)]) hx hb dX8_feed_71 hl (by decide) rfl (fun ls hl => ?_)
                  refine lv_aload_n hx hb dX8_feed_73 rfl (lv_at hl 2 rfl) ?_
                  refine va_get (D := D) (ci := 8) (v := .ref (ad 105)) (C := RX8) (T := TX8) (N := 48) hx hb hts layX8 hown hK hP 0 rfl rfl 5 (by decide) (hts _ (inA q983)) (fun _ h9 => h9) rfl dX8_feed_74 ?_
                  refine lv_aload_n hx hb dX8_feed_77 rfl (lv_at hl 2 rfl) ?_
                  refine va_get (D := D) (ci := 8) (v := .int o_X_L18.1) (C := RX8) (T := TX8) (N := 48) hx hb hts layX8 hown hK hP 0 rfl rfl 4 (by decide) (hts _ (inA q982)) (fun _ h9 => h9) rfl dX8_feed_78 ?_
                  refine lv_iload hx hb dX8_feed_81 (lv_at hl 1 rfl) ?_
                  refine lv_iadd hx hb dX8_feed_83 ?_
                  refine lv_iload hx hb dX8_feed_84 (lv_at hl 0 rfl) ?_
                  refine lv_bipush (v := 24) hx hb dX8_feed_86 (by decide) ?_
                  refine lv_bipush (v := 8) hx hb dX8_feed_88 (by decide) ?_
                  refine lv_iload hx hb dX8_feed_90 (lv_at hl 1 rfl) ?_
                  refine lv_iconst (v := 4) hx hb dX8_feed_92 (by decide) ?_
                  refine lv_irem hx hb dX8_feed_93 (by decide) ?_
                  refine lv_imul hx hb dX8_feed_94 ?_
                  refine lv_isub hx hb dX8_feed_95 ?_
                  refine lv_ishr hx hb dX8_feed_96 ?_
                  refine lv_sipush (v := 255) hx hb dX8_feed_97 (by decide) ?_
                  refine lv_iand hx hb dX8_feed_100 ?_
                  refine lv_topi (fun x1290 ex1290 => ?_)
                  replace hM := nm_use ex1290 hM
                  obtain ⟨b1289, hM⟩ := gd_use hM
                  refine va_iast hx hb hK hP hD hS 1 0 rfl rfl b1289 dX8_feed_101 (fun H locs hP hD hS => ?_)
                  have hP : va_P D vwCl (wM0 ad (o_X_L18.1, upd o_X_L18.2 (o_X_L18.1 + v6_L18).toNatClampNeg x1290) o_L o_N o_T o_U o_O o_E o_Q o_V o_I ++ wMX cI ad (o_X_L18.1, upd o_X_L18.2 (o_X_L18.1 + v6_L18).toNatClampNeg x1290)) H := hP
                  have hD : va_D A (wM0 ad (o_X_L18.1, upd o_X_L18.2 (o_X_L18.1 + v6_L18).toNatClampNeg x1290) o_L o_N o_T o_U o_O o_E o_Q o_V o_I ++ wMX cI ad (o_X_L18.1, upd o_X_L18.2 (o_X_L18.1 + v6_L18).toNatClampNeg x1290)) := hD
                  obtain ⟨x1291, ex1291⟩ : ∃ y : Int32, y = v6_L18 + 1 := ⟨_, rfl⟩
                  replace hM := nm_use ex1291 hM
                  refine lv_iinc (v := x1291) (lv' := [(6, .int x1291), (7, .int w4_L18), (0, .ref (ad 100)), (1, .int w1_L18), (2, .int w2_L18), (3, .int w3_L18), (4, .int w4_L18), (5, .int w5_L18)]) hx hb dX8_feed_102 hl (k := 1) rfl (by rw [ex1291]; rfl) (by decide) rfl (fun ls hl => ?_)
                  refine lv_goto (tgt := 18) hx hb dX8_feed_105 (by decide) ?_
                  exact ih_L18 x1291 (o_X_L18.1, upd o_X_L18.2 (o_X_L18.1 + v6_L18).toNatClampNeg x1290) out_L18 _ _ _ hM hP hD hS (lv_sub hl [0, 2, 3, 4, 5, 6, 7] rfl) kx_L18
              · replace hM := if_f c1284 hM
                refine lv_iload_n hx hb dX8_feed_53 rfl (lv_at hl 4 rfl) ?_
                refine lv_goto (tgt := 71) hx hb dX8_feed_54 (by decide) ?_
                refine lv_istore (lv' := [(7, .int w3_L18), (6, .int v6_L18), (0, .ref (ad 100)), (1, .int w1_L18), (2, .int w2_L18), (3, .int w3_L18), (4, .int w4_L18), (5, .int w5_L18)]) hx hb dX8_feed_71 hl (by decide) rfl (fun ls hl => ?_)
                refine lv_aload_n hx hb dX8_feed_73 rfl (lv_at hl 2 rfl) ?_
                refine va_get (D := D) (ci := 8) (v := .ref (ad 105)) (C := RX8) (T := TX8) (N := 48) hx hb hts layX8 hown hK hP 0 rfl rfl 5 (by decide) (hts _ (inA q983)) (fun _ h9 => h9) rfl dX8_feed_74 ?_
                refine lv_aload_n hx hb dX8_feed_77 rfl (lv_at hl 2 rfl) ?_
                refine va_get (D := D) (ci := 8) (v := .int o_X_L18.1) (C := RX8) (T := TX8) (N := 48) hx hb hts layX8 hown hK hP 0 rfl rfl 4 (by decide) (hts _ (inA q982)) (fun _ h9 => h9) rfl dX8_feed_78 ?_
                refine lv_iload hx hb dX8_feed_81 (lv_at hl 1 rfl) ?_
                refine lv_iadd hx hb dX8_feed_83 ?_
                refine lv_iload hx hb dX8_feed_84 (lv_at hl 0 rfl) ?_
                refine lv_bipush (v := 24) hx hb dX8_feed_86 (by decide) ?_
                refine lv_bipush (v := 8) hx hb dX8_feed_88 (by decide) ?_
                refine lv_iload hx hb dX8_feed_90 (lv_at hl 1 rfl) ?_
                refine lv_iconst (v := 4) hx hb dX8_feed_92 (by decide) ?_
                refine lv_irem hx hb dX8_feed_93 (by decide) ?_
                refine lv_imul hx hb dX8_feed_94 ?_
                refine lv_isub hx hb dX8_feed_95 ?_
                refine lv_ishr hx hb dX8_feed_96 ?_
                refine lv_sipush (v := 255) hx hb dX8_feed_97 (by decide) ?_
                refine lv_iand hx hb dX8_feed_100 ?_
                refine lv_topi (fun x1293 ex1293 => ?_)
                replace hM := nm_use ex1293 hM
                obtain ⟨b1292, hM⟩ := gd_use hM
                refine va_iast hx hb hK hP hD hS 1 0 rfl rfl b1292 dX8_feed_101 (fun H locs hP hD hS => ?_)
                have hP : va_P D vwCl (wM0 ad (o_X_L18.1, upd o_X_L18.2 (o_X_L18.1 + v6_L18).toNatClampNeg x1293) o_L o_N o_T o_U o_O o_E o_Q o_V o_I ++ wMX cI ad (o_X_L18.1, upd o_X_L18.2 (o_X_L18.1 + v6_L18).toNatClampNeg x1293)) H := hP
                have hD : va_D A (wM0 ad (o_X_L18.1, upd o_X_L18.2 (o_X_L18.1 + v6_L18).toNatClampNeg x1293) o_L o_N o_T o_U o_O o_E o_Q o_V o_I ++ wMX cI ad (o_X_L18.1, upd o_X_L18.2 (o_X_L18.1 + v6_L18).toNatClampNeg x1293)) := hD
                obtain ⟨x1294, ex1294⟩ : ∃ y : Int32, y = v6_L18 + 1 := ⟨_, rfl⟩
                replace hM := nm_use ex1294 hM
                refine lv_iinc (v := x1294) (lv' := [(6, .int x1294), (7, .int w3_L18), (0, .ref (ad 100)), (1, .int w1_L18), (2, .int w2_L18), (3, .int w3_L18), (4, .int w4_L18), (5, .int w5_L18)]) hx hb dX8_feed_102 hl (k := 1) rfl (by rw [ex1294]; rfl) (by decide) rfl (fun ls hl => ?_)
                refine lv_goto (tgt := 18) hx hb dX8_feed_105 (by decide) ?_
                exact ih_L18 x1294 (o_X_L18.1, upd o_X_L18.2 (o_X_L18.1 + v6_L18).toNatClampNeg x1293) out_L18 _ _ _ hM hP hD hS (lv_sub hl [0, 2, 3, 4, 5, 6, 7] rfl) kx_L18
            · replace hM := if_f c1283 hM
              refine lv_iload_n hx hb dX8_feed_42 rfl (lv_at hl 3 rfl) ?_
              refine lv_goto (tgt := 71) hx hb dX8_feed_43 (by decide) ?_
              refine lv_istore (lv' := [(7, .int w2_L18), (6, .int v6_L18), (0, .ref (ad 100)), (1, .int w1_L18), (2, .int w2_L18), (3, .int w3_L18), (4, .int w4_L18), (5, .int w5_L18)]) hx hb dX8_feed_71 hl (by decide) rfl (fun ls hl => ?_)
              refine lv_aload_n hx hb dX8_feed_73 rfl (lv_at hl 2 rfl) ?_
              refine va_get (D := D) (ci := 8) (v := .ref (ad 105)) (C := RX8) (T := TX8) (N := 48) hx hb hts layX8 hown hK hP 0 rfl rfl 5 (by decide) (hts _ (inA q983)) (fun _ h9 => h9) rfl dX8_feed_74 ?_
              refine lv_aload_n hx hb dX8_feed_77 rfl (lv_at hl 2 rfl) ?_
              refine va_get (D := D) (ci := 8) (v := .int o_X_L18.1) (C := RX8) (T := TX8) (N := 48) hx hb hts layX8 hown hK hP 0 rfl rfl 4 (by decide) (hts _ (inA q982)) (fun _ h9 => h9) rfl dX8_feed_78 ?_
              refine lv_iload hx hb dX8_feed_81 (lv_at hl 1 rfl) ?_
              refine lv_iadd hx hb dX8_feed_83 ?_
              refine lv_iload hx hb dX8_feed_84 (lv_at hl 0 rfl) ?_
              refine lv_bipush (v := 24) hx hb dX8_feed_86 (by decide) ?_
              refine lv_bipush (v := 8) hx hb dX8_feed_88 (by decide) ?_
              refine lv_iload hx hb dX8_feed_90 (lv_at hl 1 rfl) ?_
              refine lv_iconst (v := 4) hx hb dX8_feed_92 (by decide) ?_
              refine lv_irem hx hb dX8_feed_93 (by decide) ?_
              refine lv_imul hx hb dX8_feed_94 ?_
              refine lv_isub hx hb dX8_feed_95 ?_
              refine lv_ishr hx hb dX8_feed_96 ?_
              refine lv_sipush (v := 255) hx hb dX8_feed_97 (by decide) ?_
              refine lv_iand hx hb dX8_feed_100 ?_
              refine lv_topi (fun x1296 ex1296 => ?_)
              replace hM := nm_use ex1296 hM
              obtain ⟨b1295, hM⟩ := gd_use hM
              refine va_iast hx hb hK hP hD hS 1 0 rfl rfl b1295 dX8_feed_101 (fun H locs hP hD hS => ?_)
              have hP : va_P D vwCl (wM0 ad (o_X_L18.1, upd o_X_L18.2 (o_X_L18.1 + v6_L18).toNatClampNeg x1296) o_L o_N o_T o_U o_O o_E o_Q o_V o_I ++ wMX cI ad (o_X_L18.1, upd o_X_L18.2 (o_X_L18.1 + v6_L18).toNatClampNeg x1296)) H := hP
              have hD : va_D A (wM0 ad (o_X_L18.1, upd o_X_L18.2 (o_X_L18.1 + v6_L18).toNatClampNeg x1296) o_L o_N o_T o_U o_O o_E o_Q o_V o_I ++ wMX cI ad (o_X_L18.1, upd o_X_L18.2 (o_X_L18.1 + v6_L18).toNatClampNeg x1296)) := hD
              obtain ⟨x1297, ex1297⟩ : ∃ y : Int32, y = v6_L18 + 1 := ⟨_, rfl⟩
              replace hM := nm_use ex1297 hM
              refine lv_iinc (v := x1297) (lv' := [(6, .int x1297), (7, .int w2_L18), (0, .ref (ad 100)), (1, .int w1_L18), (2, .int w2_L18), (3, .int w3_L18), (4, .int w4_L18), (5, .int w5_L18)]) hx hb dX8_feed_102 hl (k := 1) rfl (by rw [ex1297]; rfl) (by decide) rfl (fun ls hl => ?_)
              refine lv_goto (tgt := 18) hx hb dX8_feed_105 (by decide) ?_
              exact ih_L18 x1297 (o_X_L18.1, upd o_X_L18.2 (o_X_L18.1 + v6_L18).toNatClampNeg x1296) out_L18 _ _ _ hM hP hD hS (lv_sub hl [0, 2, 3, 4, 5, 6, 7] rfl) kx_L18
          · replace hM := if_f c1282 hM
            refine lv_iload_n hx hb dX8_feed_31 rfl (lv_at hl 2 rfl) ?_
            refine lv_goto (tgt := 71) hx hb dX8_feed_32 (by decide) ?_
            refine lv_istore (lv' := [(7, .int w1_L18), (6, .int v6_L18), (0, .ref (ad 100)), (1, .int w1_L18), (2, .int w2_L18), (3, .int w3_L18), (4, .int w4_L18), (5, .int w5_L18)]) hx hb dX8_feed_71 hl (by decide) rfl (fun ls hl => ?_)
            refine lv_aload_n hx hb dX8_feed_73 rfl (lv_at hl 2 rfl) ?_
            refine va_get (D := D) (ci := 8) (v := .ref (ad 105)) (C := RX8) (T := TX8) (N := 48) hx hb hts layX8 hown hK hP 0 rfl rfl 5 (by decide) (hts _ (inA q983)) (fun _ h9 => h9) rfl dX8_feed_74 ?_
            refine lv_aload_n hx hb dX8_feed_77 rfl (lv_at hl 2 rfl) ?_
            refine va_get (D := D) (ci := 8) (v := .int o_X_L18.1) (C := RX8) (T := TX8) (N := 48) hx hb hts layX8 hown hK hP 0 rfl rfl 4 (by decide) (hts _ (inA q982)) (fun _ h9 => h9) rfl dX8_feed_78 ?_
            refine lv_iload hx hb dX8_feed_81 (lv_at hl 1 rfl) ?_
            refine lv_iadd hx hb dX8_feed_83 ?_
            refine lv_iload hx hb dX8_feed_84 (lv_at hl 0 rfl) ?_
            refine lv_bipush (v := 24) hx hb dX8_feed_86 (by decide) ?_
            refine lv_bipush (v := 8) hx hb dX8_feed_88 (by decide) ?_
            refine lv_iload hx hb dX8_feed_90 (lv_at hl 1 rfl) ?_
            refine lv_iconst (v := 4) hx hb dX8_feed_92 (by decide) ?_
            refine lv_irem hx hb dX8_feed_93 (by decide) ?_
            refine lv_imul hx hb dX8_feed_94 ?_
            refine lv_isub hx hb dX8_feed_95 ?_
            refine lv_ishr hx hb dX8_feed_96 ?_
            refine lv_sipush (v := 255) hx hb dX8_feed_97 (by decide) ?_
            refine lv_iand hx hb dX8_feed_100 ?_
            refine lv_topi (fun x1299 ex1299 => ?_)
            replace hM := nm_use ex1299 hM
            obtain ⟨b1298, hM⟩ := gd_use hM
            refine va_iast hx hb hK hP hD hS 1 0 rfl rfl b1298 dX8_feed_101 (fun H locs hP hD hS => ?_)
            have hP : va_P D vwCl (wM0 ad (o_X_L18.1, upd o_X_L18.2 (o_X_L18.1 + v6_L18).toNatClampNeg x1299) o_L o_N o_T o_U o_O o_E o_Q o_V o_I ++ wMX cI ad (o_X_L18.1, upd o_X_L18.2 (o_X_L18.1 + v6_L18).toNatClampNeg x1299)) H := hP
            have hD : va_D A (wM0 ad (o_X_L18.1, upd o_X_L18.2 (o_X_L18.1 + v6_L18).toNatClampNeg x1299) o_L o_N o_T o_U o_O o_E o_Q o_V o_I ++ wMX cI ad (o_X_L18.1, upd o_X_L18.2 (o_X_L18.1 + v6_L18).toNatClampNeg x1299)) := hD
            obtain ⟨x1300, ex1300⟩ : ∃ y : Int32, y = v6_L18 + 1 := ⟨_, rfl⟩
            replace hM := nm_use ex1300 hM
            refine lv_iinc (v := x1300) (lv' := [(6, .int x1300), (7, .int w1_L18), (0, .ref (ad 100)), (1, .int w1_L18), (2, .int w2_L18), (3, .int w3_L18), (4, .int w4_L18), (5, .int w5_L18)]) hx hb dX8_feed_102 hl (k := 1) rfl (by rw [ex1300]; rfl) (by decide) rfl (fun ls hl => ?_)
            refine lv_goto (tgt := 18) hx hb dX8_feed_105 (by decide) ?_
            exact ih_L18 x1300 (o_X_L18.1, upd o_X_L18.2 (o_X_L18.1 + v6_L18).toNatClampNeg x1299) out_L18 _ _ _ hM hP hD hS (lv_sub hl [0, 2, 3, 4, 5, 6, 7] rfl) kx_L18
    obtain ⟨r2, hcr2, hM⟩ := ob_use hM
    refine lp_L18 a1 a2 a3 a4 a5 FU 0 o_X r2 _ _ _ hcr2 hP hD hS (lv_sub hl [0, 1, 2, 3, 4, 5, 6] rfl) (fun H locs ls hP hD hS hl => ?_)
    refine lv_aload_n hx hb dX8_feed_108 rfl (lv_at hl 0 rfl) ?_
    refine lv_dup hx hb dX8_feed_109 rfl ?_
    refine va_get (D := D) (ci := 8) (v := .int r2.1) (C := RX8) (T := TX8) (N := 48) hx hb hts layX8 hown hK hP 0 rfl rfl 4 (by decide) (hts _ (inA q982)) (fun _ h9 => h9) rfl dX8_feed_110 ?_
    refine lv_bipush (v := 20) hx hb dX8_feed_113 (by decide) ?_
    refine lv_iadd hx hb dX8_feed_115 ?_
    refine va_put (D := D) (ci := 8) (v := .int (r2.1 + 20)) (ty := .int) (C := RX8) (T := TX8) (N := 48) hx hb hts layX8 tyX8 tyX8_ok nmX8 hown hK hP hD hS 0 rfl rfl 4 (by decide) (hts _ (inA q982)) (fun _ h9 => h9) rfl (by decide +kernel) rfl rfl (Nat.le_of_ble_eq_true rfl) dX8_feed_116 (fun H locs hP hD hS => ?_)
    have hP : va_P D vwCl (wM0 ad (r2.1 + 20, r2.2) o_L o_N o_T o_U o_O o_E o_Q o_V o_I ++ wMX cI ad (r2.1 + 20, r2.2)) H := hP
    have hD : va_D A (wM0 ad (r2.1 + 20, r2.2) o_L o_N o_T o_U o_O o_E o_Q o_V o_I ++ wMX cI ad (r2.1 + 20, r2.2)) := hD
    refine lv_aload_n hx hb dX8_feed_119 rfl (lv_at hl 0 rfl) ?_
    refine va_get (D := D) (ci := 8) (v := .int (r2.1 + 20)) (C := RX8) (T := TX8) (N := 48) hx hb hts layX8 hown hK hP 0 rfl rfl 4 (by decide) (hts _ (inA q982)) (fun _ h9 => h9) rfl dX8_feed_120 ?_
    cases hM
    exact rt_i hx hb hr hlk hP hD hS rfl dX8_feed_123
  · replace hM := if_f c1 hM
    refine lv_iconst (v := (-1)) hx hb dX8_feed_13 (by decide) ?_
    cases hM
    exact rt_i hx hb hr hlk hP hD hS rfl dX8_feed_14

set_option maxHeartbeats 4000000 in
set_option maxRecDepth 100000 in
theorem c_Model_end (l : Launch) (D : va_G) (cI : ClassId) (sd : Nat → Nat) (ad : Nat → Nat) (o_C : S_MC) (o_L : S_ML) (o_N : S_MN) (o_T : S_MT) (o_U : S_MU) (o_O : S_MO) (o_E : S_ME) (o_Q : S_MQ) (o_V : S_MV) (o_I : S_MI) (o_X : S_MX) (a1 : Int32) (res : Int32 × S_MX) (hM : f_Model_end o_X a1 = some res) : Ctr l D cI sd yX8_end (wsM yX8_end cX8_end 2 (Option.some Jvm.ClassFile.FieldType.int)) { frames := 0, cells := 0, slots := 0, locals := 0 } [.ref (ad 100), .int a1] (wM0 ad o_X o_L o_N o_T o_U o_O o_E o_Q o_V o_I ++ wMX cI ad o_X) (wM0 ad res.2 o_L o_N o_T o_U o_O o_E o_Q o_V o_I ++ wMX cI ad res.2) (some (.int res.1)) := by
  refine Ctr.of (cc := cX8_end) (maxL := 2) (own := RX8) (by decide +kernel) rfl rfl (Nat.le_of_ble_eq_true rfl) ?_
  intro p e s m below meth c A ls hx hb hr hml hown hts hlk hK hE hA hP hD hS hl
  have hl : lv_has ls 2 [(0, .ref (ad 100)), (1, .int a1)] := hl
  unfold f_Model_end at hM
  refine lv_iload_n hx hb dX8_end_0 rfl (lv_at hl 1 rfl) ?_
  refine lv_if_lt (tgt := 19) hx hb dX8_end_1 (by decide) (fun c1 => ?_) (fun c1 => ?_)
  · replace hM := if_t c1 hM
    refine lv_iconst (v := (-1)) hx hb dX8_end_19 (by decide) ?_
    cases hM
    exact rt_i hx hb hr hlk hP hD hS rfl dX8_end_20
  · replace hM := if_f c1 hM
    refine lv_iload_n hx hb dX8_end_4 rfl (lv_at hl 1 rfl) ?_
    refine lv_bipush (v := 20) hx hb dX8_end_5 (by decide) ?_
    refine lv_icmp_gt (tgt := 19) hx hb dX8_end_7 (by decide) (fun c2 => ?_) (fun c2 => ?_)
    · replace hM := if_t c2 hM
      refine lv_iconst (v := (-1)) hx hb dX8_end_19 (by decide) ?_
      cases hM
      exact rt_i hx hb hr hlk hP hD hS rfl dX8_end_20
    · replace hM := if_f c2 hM
      refine lv_aload_n hx hb dX8_end_10 rfl (lv_at hl 0 rfl) ?_
      refine va_get (D := D) (ci := 8) (v := .int o_X.1) (C := RX8) (T := TX8) (N := 48) hx hb hts layX8 hown hK hP 0 rfl rfl 4 (by decide) (hts _ (inA q982)) (fun _ h9 => h9) rfl dX8_end_11 ?_
      refine lv_bipush (v := 20) hx hb dX8_end_14 (by decide) ?_
      refine lv_icmp_ge (tgt := 21) hx hb dX8_end_16 (by decide) (fun c3 => ?_) (fun c3 => ?_)
      · replace hM := if_t c3 hM
        refine lv_aload_n hx hb dX8_end_21 rfl (lv_at hl 0 rfl) ?_
        refine lv_aload_n hx hb dX8_end_22 rfl (lv_at hl 0 rfl) ?_
        refine va_get (D := D) (ci := 8) (v := .int o_X.1) (C := RX8) (T := TX8) (N := 48) hx hb hts layX8 hown hK hP 0 rfl rfl 4 (by decide) (hts _ (inA q982)) (fun _ h9 => h9) rfl dX8_end_23 ?_
        refine lv_bipush (v := 20) hx hb dX8_end_26 (by decide) ?_
        refine lv_isub hx hb dX8_end_28 ?_
        refine lv_iload_n hx hb dX8_end_29 rfl (lv_at hl 1 rfl) ?_
        refine lv_iadd hx hb dX8_end_30 ?_
        refine va_put (D := D) (ci := 8) (v := .int ((o_X.1 - 20) + a1)) (ty := .int) (C := RX8) (T := TX8) (N := 48) hx hb hts layX8 tyX8 tyX8_ok nmX8 hown hK hP hD hS 0 rfl rfl 4 (by decide) (hts _ (inA q982)) (fun _ h9 => h9) rfl (by decide +kernel) rfl rfl (Nat.le_of_ble_eq_true rfl) dX8_end_31 (fun H locs hP hD hS => ?_)
        have hP : va_P D vwCl (wM0 ad ((o_X.1 - 20) + a1, o_X.2) o_L o_N o_T o_U o_O o_E o_Q o_V o_I ++ wMX cI ad ((o_X.1 - 20) + a1, o_X.2)) H := hP
        have hD : va_D A (wM0 ad ((o_X.1 - 20) + a1, o_X.2) o_L o_N o_T o_U o_O o_E o_Q o_V o_I ++ wMX cI ad ((o_X.1 - 20) + a1, o_X.2)) := hD
        refine lv_aload_n hx hb dX8_end_34 rfl (lv_at hl 0 rfl) ?_
        refine va_get (D := D) (ci := 8) (v := .int ((o_X.1 - 20) + a1)) (C := RX8) (T := TX8) (N := 48) hx hb hts layX8 hown hK hP 0 rfl rfl 4 (by decide) (hts _ (inA q982)) (fun _ h9 => h9) rfl dX8_end_35 ?_
        cases hM
        exact rt_i hx hb hr hlk hP hD hS rfl dX8_end_38
      · replace hM := if_f c3 hM
        refine lv_iconst (v := (-1)) hx hb dX8_end_19 (by decide) ?_
        cases hM
        exact rt_i hx hb hr hlk hP hD hS rfl dX8_end_20

set_option maxHeartbeats 4000000 in
set_option maxRecDepth 100000 in
theorem c_Model_change (l : Launch) (D : va_G) (cI : ClassId) (sd : Nat → Nat) (ad : Nat → Nat) (o_C : S_MC) (o_L : S_ML) (o_N : S_MN) (o_T : S_MT) (o_U : S_MU) (o_O : S_MO) (o_E : S_ME) (o_Q : S_MQ) (o_V : S_MV) (o_I : S_MI) (o_X : S_MX) (a1 : Int32) (a2 : Int32) (res : Int32 × S_MX) (hM : f_Model_change o_X a1 a2 = some res) : Ctr l D cI sd yX8_change (wsM yX8_change cX8_change 4 (Option.some Jvm.ClassFile.FieldType.int)) { frames := 0, cells := 0, slots := 0, locals := 0 } [.ref (ad 100), .int a1, .int a2] (wM0 ad o_X o_L o_N o_T o_U o_O o_E o_Q o_V o_I ++ wMX cI ad o_X) (wM0 ad res.2 o_L o_N o_T o_U o_O o_E o_Q o_V o_I ++ wMX cI ad res.2) (some (.int res.1)) := by
  refine Ctr.of (cc := cX8_change) (maxL := 4) (own := RX8) (by decide +kernel) rfl rfl (Nat.le_of_ble_eq_true rfl) ?_
  intro p e s m below meth c A ls hx hb hr hml hown hts hlk hK hE hA hP hD hS hl
  have hl : lv_has ls 4 [(0, .ref (ad 100)), (1, .int a1), (2, .int a2)] := hl
  unfold f_Model_change at hM
  refine lv_iload_n hx hb dX8_change_0 rfl (lv_at hl 1 rfl) ?_
  refine lv_if_lt (tgt := 23) hx hb dX8_change_1 (by decide) (fun c1 => ?_) (fun c1 => ?_)
  · replace hM := if_t c1 hM
    refine lv_iconst (v := (-1)) hx hb dX8_change_23 (by decide) ?_
    cases hM
    exact rt_i hx hb hr hlk hP hD hS rfl dX8_change_24
  · replace hM := if_f c1 hM
    refine lv_iload_n hx hb dX8_change_4 rfl (lv_at hl 1 rfl) ?_
    refine lv_aload_n hx hb dX8_change_5 rfl (lv_at hl 0 rfl) ?_
    refine va_get (D := D) (ci := 8) (v := .int o_X.1) (C := RX8) (T := TX8) (N := 48) hx hb hts layX8 hown hK hP 0 rfl rfl 4 (by decide) (hts _ (inA q982)) (fun _ h9 => h9) rfl dX8_change_6 ?_
    refine lv_icmp_ge (tgt := 23) hx hb dX8_change_9 (by decide) (fun c2 => ?_) (fun c2 => ?_)
    · replace hM := if_t c2 hM
      refine lv_iconst (v := (-1)) hx hb dX8_change_23 (by decide) ?_
      cases hM
      exact rt_i hx hb hr hlk hP hD hS rfl dX8_change_24
    · replace hM := if_f c2 hM
      refine lv_iload_n hx hb dX8_change_12 rfl (lv_at hl 2 rfl) ?_
      refine lv_if_lt (tgt := 23) hx hb dX8_change_13 (by decide) (fun c3 => ?_) (fun c3 => ?_)
      · replace hM := if_t c3 hM
        refine lv_iconst (v := (-1)) hx hb dX8_change_23 (by decide) ?_
        cases hM
        exact rt_i hx hb hr hlk hP hD hS rfl dX8_change_24
      · replace hM := if_f c3 hM
        refine lv_iload_n hx hb dX8_change_16 rfl (lv_at hl 2 rfl) ?_
        refine lv_sipush (v := 255) hx hb dX8_change_17 (by decide) ?_
        refine lv_icmp_le (tgt := 25) hx hb dX8_change_20 (by decide) (fun c4 => ?_) (fun c4 => ?_)
        · replace hM := if_t c4 hM
          refine lv_aload_n hx hb dX8_change_25 rfl (lv_at hl 0 rfl) ?_
          refine va_get (D := D) (ci := 8) (v := .ref (ad 105)) (C := RX8) (T := TX8) (N := 48) hx hb hts layX8 hown hK hP 0 rfl rfl 5 (by decide) (hts _ (inA q983)) (fun _ h9 => h9) rfl dX8_change_26 ?_
          refine lv_iload_n hx hb dX8_change_29 rfl (lv_at hl 1 rfl) ?_
          obtain ⟨b5, hM⟩ := gd_use hM
          refine va_iald hx hb hK hP 1 0 rfl rfl b5 dX8_change_30 ?_
          refine lv_istore_n (lv' := [(3, .int (o_X.2 a1.toNatClampNeg)), (0, .ref (ad 100)), (1, .int a1), (2, .int a2)]) hx hb dX8_change_31 rfl hl (by decide) rfl (fun ls hl => ?_)
          refine lv_aload_n hx hb dX8_change_32 rfl (lv_at hl 1 rfl) ?_
          refine va_get (D := D) (ci := 8) (v := .ref (ad 105)) (C := RX8) (T := TX8) (N := 48) hx hb hts layX8 hown hK hP 0 rfl rfl 5 (by decide) (hts _ (inA q983)) (fun _ h9 => h9) rfl dX8_change_33 ?_
          refine lv_iload_n hx hb dX8_change_36 rfl (lv_at hl 2 rfl) ?_
          refine lv_iload_n hx hb dX8_change_37 rfl (lv_at hl 3 rfl) ?_
          obtain ⟨b6, hM⟩ := gd_use hM
          refine va_iast hx hb hK hP hD hS 1 0 rfl rfl b6 dX8_change_38 (fun H locs hP hD hS => ?_)
          have hP : va_P D vwCl (wM0 ad (o_X.1, upd o_X.2 a1.toNatClampNeg a2) o_L o_N o_T o_U o_O o_E o_Q o_V o_I ++ wMX cI ad (o_X.1, upd o_X.2 a1.toNatClampNeg a2)) H := hP
          have hD : va_D A (wM0 ad (o_X.1, upd o_X.2 a1.toNatClampNeg a2) o_L o_N o_T o_U o_O o_E o_Q o_V o_I ++ wMX cI ad (o_X.1, upd o_X.2 a1.toNatClampNeg a2)) := hD
          refine lv_iload_n hx hb dX8_change_39 rfl (lv_at hl 0 rfl) ?_
          cases hM
          exact rt_i hx hb hr hlk hP hD hS rfl dX8_change_40
        · replace hM := if_f c4 hM
          refine lv_iconst (v := (-1)) hx hb dX8_change_23 (by decide) ?_
          cases hM
          exact rt_i hx hb hr hlk hP hD hS rfl dX8_change_24

set_option maxHeartbeats 4000000 in
set_option maxRecDepth 100000 in
theorem c_Model_fail (l : Launch) (D : va_G) (cI : ClassId) (sd : Nat → Nat) (ad : Nat → Nat) (o_C : S_MC) (o_X : S_MX) (o_N : S_MN) (o_T : S_MT) (o_U : S_MU) (o_O : S_MO) (o_E : S_ME) (o_Q : S_MQ) (o_V : S_MV) (o_I : S_MI) (o_L : S_ML) (a1 : Int32) (a2 : Int32) (res : S_ML) (hM : f_Model_fail o_L a1 a2 = some res) : Ctr l D cI sd yX8_fail (wsM yX8_fail cX8_fail 3 (Option.none : Option Jvm.ClassFile.FieldType)) { frames := 0, cells := 0, slots := 0, locals := 0 } [.ref (ad 100), .int a1, .int a2] (wM0 ad o_X o_L o_N o_T o_U o_O o_E o_Q o_V o_I) (wM0 ad o_X res o_N o_T o_U o_O o_E o_Q o_V o_I) none := by
  refine Ctr.of (cc := cX8_fail) (maxL := 3) (own := RX8) (by decide +kernel) rfl rfl (Nat.le_of_ble_eq_true rfl) ?_
  intro p e s m below meth c A ls hx hb hr hml hown hts hlk hK hE hA hP hD hS hl
  have hl : lv_has ls 3 [(0, .ref (ad 100)), (1, .int a1), (2, .int a2)] := hl
  unfold f_Model_fail at hM
  refine lv_aload_n hx hb dX8_fail_0 rfl (lv_at hl 0 rfl) ?_
  refine va_get (D := D) (ci := 8) (v := .int o_L.2.2.2.2.2.1) (C := RX8) (T := TX8) (N := 48) hx hb hts layX8 hown hK hP 0 rfl rfl 11 (by decide) (hts _ (inA q989)) (fun _ h9 => h9) rfl dX8_fail_1 ?_
  refine lv_if_ne (tgt := 17) hx hb dX8_fail_4 (by decide) (fun c1 => ?_) (fun c1 => ?_)
  · replace hM := if_f c1 hM
    cases hM
    exact rt_v hx hb hr hlk hP hD hS rfl dX8_fail_17
  · replace hM := if_t c1 hM
    refine lv_aload_n hx hb dX8_fail_7 rfl (lv_at hl 0 rfl) ?_
    refine lv_iload_n hx hb dX8_fail_8 rfl (lv_at hl 1 rfl) ?_
    refine va_put (D := D) (ci := 8) (v := .int a1) (ty := .int) (C := RX8) (T := TX8) (N := 48) hx hb hts layX8 tyX8 tyX8_ok nmX8 hown hK hP hD hS 0 rfl rfl 11 (by decide) (hts _ (inA q989)) (fun _ h9 => h9) rfl (by decide +kernel) rfl rfl (Nat.le_of_ble_eq_true rfl) dX8_fail_9 (fun H locs hP hD hS => ?_)
    have hP : va_P D vwCl (wM0 ad o_X (o_L.1, o_L.2.1, o_L.2.2.1, o_L.2.2.2.1, o_L.2.2.2.2.1, a1, o_L.2.2.2.2.2.2) o_N o_T o_U o_O o_E o_Q o_V o_I) H := hP
    have hD : va_D A (wM0 ad o_X (o_L.1, o_L.2.1, o_L.2.2.1, o_L.2.2.2.1, o_L.2.2.2.2.1, a1, o_L.2.2.2.2.2.2) o_N o_T o_U o_O o_E o_Q o_V o_I) := hD
    refine lv_aload_n hx hb dX8_fail_12 rfl (lv_at hl 0 rfl) ?_
    refine lv_iload_n hx hb dX8_fail_13 rfl (lv_at hl 2 rfl) ?_
    refine va_put (D := D) (ci := 8) (v := .int a2) (ty := .int) (C := RX8) (T := TX8) (N := 48) hx hb hts layX8 tyX8 tyX8_ok nmX8 hown hK hP hD hS 0 rfl rfl 12 (by decide) (hts _ (inA q990)) (fun _ h9 => h9) rfl (by decide +kernel) rfl rfl (Nat.le_of_ble_eq_true rfl) dX8_fail_14 (fun H locs hP hD hS => ?_)
    have hP : va_P D vwCl (wM0 ad o_X (o_L.1, o_L.2.1, o_L.2.2.1, o_L.2.2.2.1, o_L.2.2.2.2.1, a1, a2) o_N o_T o_U o_O o_E o_Q o_V o_I) H := hP
    have hD : va_D A (wM0 ad o_X (o_L.1, o_L.2.1, o_L.2.2.1, o_L.2.2.2.1, o_L.2.2.2.2.1, a1, a2) o_N o_T o_U o_O o_E o_Q o_V o_I) := hD
    cases hM
    exact rt_v hx hb hr hlk hP hD hS rfl dX8_fail_17

set_option maxHeartbeats 4000000 in
set_option maxRecDepth 100000 in
theorem c_Model_skip (l : Launch) (D : va_G) (cI : ClassId) (sd : Nat → Nat) (ad : Nat → Nat) (o_C : S_MC) (o_N : S_MN) (o_T : S_MT) (o_U : S_MU) (o_O : S_MO) (o_E : S_ME) (o_Q : S_MQ) (o_V : S_MV) (o_I : S_MI) (o_X : S_MX) (o_L : S_ML) (res : S_ML) (hM : f_Model_skip o_X o_L = some res) : Ctr l D cI sd yX8_skip (wsM yX8_skip cX8_skip 4 (Option.none : Option Jvm.ClassFile.FieldType)) { frames := 1, cells := 0, slots := 0, locals := 22 } [.ref (ad 100)] (wM0 ad o_X o_L o_N o_T o_U o_O o_E o_Q o_V o_I ++ wMX cI ad o_X) (wM0 ad o_X res o_N o_T o_U o_O o_E o_Q o_V o_I ++ wMX cI ad o_X) none := by
  refine Ctr.of (cc := cX8_skip) (maxL := 4) (own := RX8) (by decide +kernel) rfl rfl (Nat.le_of_ble_eq_true rfl) ?_
  intro p e s m below meth c A ls hx hb hr hml hown hts hlk hK hE hA hP hD hS hl
  have hl : lv_has ls 4 [(0, .ref (ad 100))] := hl
  unfold f_Model_skip at hM
  refine lv_iconst (v := 1) hx hb dX8_skip_0 (by decide) ?_
  refine lv_istore_n (lv' := [(1, .int 1), (0, .ref (ad 100))]) hx hb dX8_skip_1 rfl hl (by decide) rfl (fun ls hl => ?_)
  have lp_L2 : ∀ (o_X_L2 : S_MX) (n : Nat) (v1_L2 : Int32) (o_L_L2 : S_ML) (out_L2 : S_ML) (H : Heap) (locs : List Loc) (ls : Array Slot), f_Model_skip_L2 o_X_L2 n v1_L2 o_L_L2 = some out_L2 → va_P D vwCl (wM0 ad o_X_L2 o_L_L2 o_N o_T o_U o_O o_E o_Q o_V o_I ++ wMX cI ad o_X_L2) H → va_D A (wM0 ad o_X_L2 o_L_L2 o_N o_T o_U o_O o_E o_Q o_V o_I ++ wMX cI ad o_X_L2) → va_S A s.heap H locs → lv_has ls 4 [(1, .int v1_L2), (0, .ref (ad 100))] → (∀ (H : Heap) (locs : List Loc) (ls : Array Slot), va_P D vwCl (wM0 ad o_X_L2 out_L2 o_N o_T o_U o_O o_E o_Q o_V o_I ++ wMX cI ad o_X_L2) H → va_D A (wM0 ad o_X_L2 out_L2 o_N o_T o_U o_O o_E o_Q o_V o_I ++ wMX cI ad o_X_L2) → va_S A s.heap H locs → lv_has ls 4 [(0, .ref (ad 100))] → W p l e { frames := 1, cells := 0, slots := 0, locals := 22 } s m [.ref (ad 100)].toArray below meth c H locs 0 0 (MQ below (CQ D A (wM0 ad o_X res o_N o_T o_U o_O o_E o_Q o_V o_I ++ wMX cI ad o_X) none) [.ref (ad 100)].toArray s 0 0 A) (F0 m 151 ls [])) → W p l e { frames := 1, cells := 0, slots := 0, locals := 22 } s m [.ref (ad 100)].toArray below meth c H locs 0 0 (MQ below (CQ D A (wM0 ad o_X res o_N o_T o_U o_O o_E o_Q o_V o_I ++ wMX cI ad o_X) none) [.ref (ad 100)].toArray s 0 0 A) (F0 m 2 ls []) := by
    intro o_X_L2 n
    induction n with
    | zero => intro v1_L2 o_L_L2 out_L2 H locs ls hM; exact absurd (show none = some _ from hM) (by simp)
    | succ n ih_L2 =>
      intro v1_L2 o_L_L2 out_L2 H locs ls hM hP hD hS hl kx_L2
      rw [f_Model_skip_L2] at hM
      refine lv_iload_n hx hb dX8_skip_2 rfl (lv_at hl 0 rfl) ?_
      refine lv_if_eq (tgt := 151) hx hb dX8_skip_3 (by decide) (fun c1121 => ?_) (fun c1121 => ?_)
      · replace hM := if_t c1121 hM
        cases hM
        exact kx_L2 _ _ _ hP hD hS (lv_sub hl [1] rfl)
      · replace hM := if_f c1121 hM
        refine lv_aload_n hx hb dX8_skip_6 rfl (lv_at hl 1 rfl) ?_
        refine lv_aload_n hx hb dX8_skip_7 rfl (lv_at hl 1 rfl) ?_
        refine va_get (D := D) (ci := 8) (v := .int o_L_L2.2.2.2.1) (C := RX8) (T := TX8) (N := 48) hx hb hts layX8 hown hK hP 0 rfl rfl 9 (by decide) (hts _ (inA q987)) (fun _ h9 => h9) rfl dX8_skip_8 ?_
        obtain ⟨r1122, hcr1122, hM⟩ := ob_use hM
        refine cl_V (As := [.int o_L_L2.2.2.2.1]) (rest := []) (wM0 ad o_X_L2 o_L_L2 o_N o_T o_U o_O o_E o_Q o_V o_I ++ wMX cI ad o_X_L2) (.int r1122 :: []) ⟨hx, hb, hml, hown, hts⟩ (c_Model_at l D cI sd ad o_C o_L_L2 o_N o_T o_U o_O o_E o_Q o_V o_I o_X_L2 o_L_L2.2.2.2.1 r1122 hcr1122) (cwV2 hts q1159 mvX8_at rfl rfl ⟨(Nat.le_of_ble_eq_true rfl), (Nat.le_of_ble_eq_true rfl)⟩) hK hE hA hP hD hS 0 (T := TX8) (N := 48) (ci := 8) rfl rfl [0, 1] rfl (by decide) rfl rfl rfl rfl rfl rfl hl.1 (Nat.le_of_ble_eq_true rfl) dX8_skip_11 ⟨Nat.zero_le _, Nat.zero_le _⟩ (fun H locs hP hD hS => ?_)
        refine lv_istore_n (lv' := [(2, .int r1122), (1, .int v1_L2), (0, .ref (ad 100))]) hx hb dX8_skip_14 rfl hl (by decide) rfl (fun ls hl => ?_)
        refine lv_iload_n hx hb dX8_skip_15 rfl (lv_at hl 0 rfl) ?_
        refine lv_bipush (v := 9) hx hb dX8_skip_16 (by decide) ?_
        refine lv_icmp_eq (tgt := 39) hx hb dX8_skip_18 (by decide) (fun c1123 => ?_) (fun c1123 => ?_)
        · replace hM := if_t c1123 hM
          refine lv_aload_n hx hb dX8_skip_39 rfl (lv_at hl 2 rfl) ?_
          refine lv_dup hx hb dX8_skip_40 rfl ?_
          refine va_get (D := D) (ci := 8) (v := .int o_L_L2.2.2.2.1) (C := RX8) (T := TX8) (N := 48) hx hb hts layX8 hown hK hP 0 rfl rfl 9 (by decide) (hts _ (inA q987)) (fun _ h9 => h9) rfl dX8_skip_41 ?_
          refine lv_iconst (v := 1) hx hb dX8_skip_44 (by decide) ?_
          refine lv_iadd hx hb dX8_skip_45 ?_
          refine va_put (D := D) (ci := 8) (v := .int (o_L_L2.2.2.2.1 + 1)) (ty := .int) (C := RX8) (T := TX8) (N := 48) hx hb hts layX8 tyX8 tyX8_ok nmX8 hown hK hP hD hS 0 rfl rfl 9 (by decide) (hts _ (inA q987)) (fun _ h9 => h9) rfl (by decide +kernel) rfl rfl (Nat.le_of_ble_eq_true rfl) dX8_skip_46 (fun H locs hP hD hS => ?_)
          have hP : va_P D vwCl (wM0 ad o_X_L2 (o_L_L2.1, o_L_L2.2.1, o_L_L2.2.2.1, o_L_L2.2.2.2.1 + 1, o_L_L2.2.2.2.2) o_N o_T o_U o_O o_E o_Q o_V o_I ++ wMX cI ad o_X_L2) H := hP
          have hD : va_D A (wM0 ad o_X_L2 (o_L_L2.1, o_L_L2.2.1, o_L_L2.2.2.1, o_L_L2.2.2.2.1 + 1, o_L_L2.2.2.2.2) o_N o_T o_U o_O o_E o_Q o_V o_I ++ wMX cI ad o_X_L2) := hD
          refine lv_goto (tgt := 148) hx hb dX8_skip_49 (by decide) ?_
          refine lv_goto (tgt := 2) hx hb dX8_skip_148 (by decide) ?_
          exact ih_L2 v1_L2 (o_L_L2.1, o_L_L2.2.1, o_L_L2.2.2.1, o_L_L2.2.2.2.1 + 1, o_L_L2.2.2.2.2) out_L2 _ _ _ hM hP hD hS (lv_sub hl [1, 2] rfl) kx_L2
        · replace hM := if_f c1123 hM
          refine lv_iload_n hx hb dX8_skip_21 rfl (lv_at hl 0 rfl) ?_
          refine lv_bipush (v := 10) hx hb dX8_skip_22 (by decide) ?_
          refine lv_icmp_eq (tgt := 39) hx hb dX8_skip_24 (by decide) (fun c1124 => ?_) (fun c1124 => ?_)
          · replace hM := if_t c1124 hM
            refine lv_aload_n hx hb dX8_skip_39 rfl (lv_at hl 2 rfl) ?_
            refine lv_dup hx hb dX8_skip_40 rfl ?_
            refine va_get (D := D) (ci := 8) (v := .int o_L_L2.2.2.2.1) (C := RX8) (T := TX8) (N := 48) hx hb hts layX8 hown hK hP 0 rfl rfl 9 (by decide) (hts _ (inA q987)) (fun _ h9 => h9) rfl dX8_skip_41 ?_
            refine lv_iconst (v := 1) hx hb dX8_skip_44 (by decide) ?_
            refine lv_iadd hx hb dX8_skip_45 ?_
            refine va_put (D := D) (ci := 8) (v := .int (o_L_L2.2.2.2.1 + 1)) (ty := .int) (C := RX8) (T := TX8) (N := 48) hx hb hts layX8 tyX8 tyX8_ok nmX8 hown hK hP hD hS 0 rfl rfl 9 (by decide) (hts _ (inA q987)) (fun _ h9 => h9) rfl (by decide +kernel) rfl rfl (Nat.le_of_ble_eq_true rfl) dX8_skip_46 (fun H locs hP hD hS => ?_)
            have hP : va_P D vwCl (wM0 ad o_X_L2 (o_L_L2.1, o_L_L2.2.1, o_L_L2.2.2.1, o_L_L2.2.2.2.1 + 1, o_L_L2.2.2.2.2) o_N o_T o_U o_O o_E o_Q o_V o_I ++ wMX cI ad o_X_L2) H := hP
            have hD : va_D A (wM0 ad o_X_L2 (o_L_L2.1, o_L_L2.2.1, o_L_L2.2.2.1, o_L_L2.2.2.2.1 + 1, o_L_L2.2.2.2.2) o_N o_T o_U o_O o_E o_Q o_V o_I ++ wMX cI ad o_X_L2) := hD
            refine lv_goto (tgt := 148) hx hb dX8_skip_49 (by decide) ?_
            refine lv_goto (tgt := 2) hx hb dX8_skip_148 (by decide) ?_
            exact ih_L2 v1_L2 (o_L_L2.1, o_L_L2.2.1, o_L_L2.2.2.1, o_L_L2.2.2.2.1 + 1, o_L_L2.2.2.2.2) out_L2 _ _ _ hM hP hD hS (lv_sub hl [1, 2] rfl) kx_L2
          · replace hM := if_f c1124 hM
            refine lv_iload_n hx hb dX8_skip_27 rfl (lv_at hl 0 rfl) ?_
            refine lv_bipush (v := 13) hx hb dX8_skip_28 (by decide) ?_
            refine lv_icmp_eq (tgt := 39) hx hb dX8_skip_30 (by decide) (fun c1125 => ?_) (fun c1125 => ?_)
            · replace hM := if_t c1125 hM
              refine lv_aload_n hx hb dX8_skip_39 rfl (lv_at hl 2 rfl) ?_
              refine lv_dup hx hb dX8_skip_40 rfl ?_
              refine va_get (D := D) (ci := 8) (v := .int o_L_L2.2.2.2.1) (C := RX8) (T := TX8) (N := 48) hx hb hts layX8 hown hK hP 0 rfl rfl 9 (by decide) (hts _ (inA q987)) (fun _ h9 => h9) rfl dX8_skip_41 ?_
              refine lv_iconst (v := 1) hx hb dX8_skip_44 (by decide) ?_
              refine lv_iadd hx hb dX8_skip_45 ?_
              refine va_put (D := D) (ci := 8) (v := .int (o_L_L2.2.2.2.1 + 1)) (ty := .int) (C := RX8) (T := TX8) (N := 48) hx hb hts layX8 tyX8 tyX8_ok nmX8 hown hK hP hD hS 0 rfl rfl 9 (by decide) (hts _ (inA q987)) (fun _ h9 => h9) rfl (by decide +kernel) rfl rfl (Nat.le_of_ble_eq_true rfl) dX8_skip_46 (fun H locs hP hD hS => ?_)
              have hP : va_P D vwCl (wM0 ad o_X_L2 (o_L_L2.1, o_L_L2.2.1, o_L_L2.2.2.1, o_L_L2.2.2.2.1 + 1, o_L_L2.2.2.2.2) o_N o_T o_U o_O o_E o_Q o_V o_I ++ wMX cI ad o_X_L2) H := hP
              have hD : va_D A (wM0 ad o_X_L2 (o_L_L2.1, o_L_L2.2.1, o_L_L2.2.2.1, o_L_L2.2.2.2.1 + 1, o_L_L2.2.2.2.2) o_N o_T o_U o_O o_E o_Q o_V o_I ++ wMX cI ad o_X_L2) := hD
              refine lv_goto (tgt := 148) hx hb dX8_skip_49 (by decide) ?_
              refine lv_goto (tgt := 2) hx hb dX8_skip_148 (by decide) ?_
              exact ih_L2 v1_L2 (o_L_L2.1, o_L_L2.2.1, o_L_L2.2.2.1, o_L_L2.2.2.2.1 + 1, o_L_L2.2.2.2.2) out_L2 _ _ _ hM hP hD hS (lv_sub hl [1, 2] rfl) kx_L2
            · replace hM := if_f c1125 hM
              refine lv_iload_n hx hb dX8_skip_33 rfl (lv_at hl 0 rfl) ?_
              refine lv_bipush (v := 32) hx hb dX8_skip_34 (by decide) ?_
              refine lv_icmp_ne (tgt := 52) hx hb dX8_skip_36 (by decide) (fun c1126 => ?_) (fun c1126 => ?_)
              · replace hM := if_f c1126 hM
                refine lv_iload_n hx hb dX8_skip_52 rfl (lv_at hl 0 rfl) ?_
                refine lv_bipush (v := 40) hx hb dX8_skip_53 (by decide) ?_
                refine lv_icmp_ne (tgt := 146) hx hb dX8_skip_55 (by decide) (fun c1127 => ?_) (fun c1127 => ?_)
                · replace hM := if_f c1127 hM
                  refine lv_iconst (v := 0) hx hb dX8_skip_146 (by decide) ?_
                  refine lv_istore_n (lv' := [(1, .int 0), (2, .int r1122), (0, .ref (ad 100))]) hx hb dX8_skip_147 rfl hl (by decide) rfl (fun ls hl => ?_)
                  refine lv_goto (tgt := 2) hx hb dX8_skip_148 (by decide) ?_
                  exact ih_L2 0 o_L_L2 out_L2 _ _ _ hM hP hD hS (lv_sub hl [0, 2] rfl) kx_L2
                · replace hM := if_t c1127 hM
                  refine lv_aload_n hx hb dX8_skip_58 rfl (lv_at hl 2 rfl) ?_
                  refine lv_aload_n hx hb dX8_skip_59 rfl (lv_at hl 2 rfl) ?_
                  refine va_get (D := D) (ci := 8) (v := .int o_L_L2.2.2.2.1) (C := RX8) (T := TX8) (N := 48) hx hb hts layX8 hown hK hP 0 rfl rfl 9 (by decide) (hts _ (inA q987)) (fun _ h9 => h9) rfl dX8_skip_60 ?_
                  refine lv_iconst (v := 1) hx hb dX8_skip_63 (by decide) ?_
                  refine lv_iadd hx hb dX8_skip_64 ?_
                  obtain ⟨r1128, hcr1128, hM⟩ := ob_use hM
                  refine cl_V (As := [.int (o_L_L2.2.2.2.1 + 1)]) (rest := []) (wM0 ad o_X_L2 o_L_L2 o_N o_T o_U o_O o_E o_Q o_V o_I ++ wMX cI ad o_X_L2) (.int r1128 :: []) ⟨hx, hb, hml, hown, hts⟩ (c_Model_at l D cI sd ad o_C o_L_L2 o_N o_T o_U o_O o_E o_Q o_V o_I o_X_L2 (o_L_L2.2.2.2.1 + 1) r1128 hcr1128) (cwV2 hts q1159 mvX8_at rfl rfl ⟨(Nat.le_of_ble_eq_true rfl), (Nat.le_of_ble_eq_true rfl)⟩) hK hE hA hP hD hS 0 (T := TX8) (N := 48) (ci := 8) rfl rfl [0, 1] rfl (by decide) rfl rfl rfl rfl rfl rfl hl.1 (Nat.le_of_ble_eq_true rfl) dX8_skip_65 ⟨Nat.zero_le _, Nat.zero_le _⟩ (fun H locs hP hD hS => ?_)
                  refine lv_bipush (v := 42) hx hb dX8_skip_68 (by decide) ?_
                  refine lv_icmp_ne (tgt := 146) hx hb dX8_skip_70 (by decide) (fun c1129 => ?_) (fun c1129 => ?_)
                  · replace hM := if_f c1129 hM
                    refine lv_iconst (v := 0) hx hb dX8_skip_146 (by decide) ?_
                    refine lv_istore_n (lv' := [(1, .int 0), (2, .int r1122), (0, .ref (ad 100))]) hx hb dX8_skip_147 rfl hl (by decide) rfl (fun ls hl => ?_)
                    refine lv_goto (tgt := 2) hx hb dX8_skip_148 (by decide) ?_
                    exact ih_L2 0 o_L_L2 out_L2 _ _ _ hM hP hD hS (lv_sub hl [0, 2] rfl) kx_L2
                  · replace hM := if_t c1129 hM
                    refine lv_aload_n hx hb dX8_skip_73 rfl (lv_at hl 2 rfl) ?_
                    refine va_get (D := D) (ci := 8) (v := .int o_L_L2.2.2.2.1) (C := RX8) (T := TX8) (N := 48) hx hb hts layX8 hown hK hP 0 rfl rfl 9 (by decide) (hts _ (inA q987)) (fun _ h9 => h9) rfl dX8_skip_74 ?_
                    refine lv_iconst (v := 2) hx hb dX8_skip_77 (by decide) ?_
                    refine lv_iadd hx hb dX8_skip_78 ?_
                    refine lv_istore_n (lv' := [(3, .int (o_L_L2.2.2.2.1 + 2)), (2, .int r1122), (1, .int v1_L2), (0, .ref (ad 100))]) hx hb dX8_skip_79 rfl hl (by decide) rfl (fun ls hl => ?_)
                    have lp_L80 : ∀ (w1_L80 : Int32) (o_X_L80 : S_MX) (o_L_L80 : S_ML) (n : Nat) (v3_L80 : Int32) (out_L80 : Int32) (H : Heap) (locs : List Loc) (ls : Array Slot), f_Model_skip_L80 o_X_L80 n v3_L80 = some out_L80 → va_P D vwCl (wM0 ad o_X_L80 o_L_L80 o_N o_T o_U o_O o_E o_Q o_V o_I ++ wMX cI ad o_X_L80) H → va_D A (wM0 ad o_X_L80 o_L_L80 o_N o_T o_U o_O o_E o_Q o_V o_I ++ wMX cI ad o_X_L80) → va_S A s.heap H locs → lv_has ls 4 [(3, .int v3_L80), (1, .int w1_L80), (0, .ref (ad 100))] → (∀ (H : Heap) (locs : List Loc) (ls : Array Slot), va_P D vwCl (wM0 ad o_X_L80 o_L_L80 o_N o_T o_U o_O o_E o_Q o_V o_I ++ wMX cI ad o_X_L80) H → va_D A (wM0 ad o_X_L80 o_L_L80 o_N o_T o_U o_O o_E o_Q o_V o_I ++ wMX cI ad o_X_L80) → va_S A s.heap H locs → lv_has ls 4 [(3, .int out_L80), (1, .int w1_L80), (0, .ref (ad 100))] → W p l e { frames := 1, cells := 0, slots := 0, locals := 22 } s m [.ref (ad 100)].toArray below meth c H locs 0 0 (MQ below (CQ D A (wM0 ad o_X res o_N o_T o_U o_O o_E o_Q o_V o_I ++ wMX cI ad o_X) none) [.ref (ad 100)].toArray s 0 0 A) (F0 m 117 ls [])) → W p l e { frames := 1, cells := 0, slots := 0, locals := 22 } s m [.ref (ad 100)].toArray below meth c H locs 0 0 (MQ below (CQ D A (wM0 ad o_X res o_N o_T o_U o_O o_E o_Q o_V o_I ++ wMX cI ad o_X) none) [.ref (ad 100)].toArray s 0 0 A) (F0 m 80 ls []) := by
                      intro w1_L80 o_X_L80 o_L_L80 n
                      induction n with
                      | zero => intro v3_L80 out_L80 H locs ls hM; exact absurd (show none = some _ from hM) (by simp)
                      | succ n ih_L80 =>
                        intro v3_L80 out_L80 H locs ls hM hP hD hS hl kx_L80
                        rw [f_Model_skip_L80] at hM
                        refine lv_iload_n hx hb dX8_skip_80 rfl (lv_at hl 0 rfl) ?_
                        refine lv_aload_n hx hb dX8_skip_81 rfl (lv_at hl 2 rfl) ?_
                        refine va_get (D := D) (ci := 8) (v := .int o_X_L80.1) (C := RX8) (T := TX8) (N := 48) hx hb hts layX8 hown hK hP 0 rfl rfl 4 (by decide) (hts _ (inA q982)) (fun _ h9 => h9) rfl dX8_skip_82 ?_
                        refine lv_icmp_ge (tgt := 117) hx hb dX8_skip_85 (by decide) (fun c2001 => ?_) (fun c2001 => ?_)
                        · replace hM := if_t c2001 hM
                          cases hM
                          exact kx_L80 _ _ _ hP hD hS (lv_sub hl [0, 1, 2] rfl)
                        · replace hM := if_f c2001 hM
                          refine lv_aload_n hx hb dX8_skip_88 rfl (lv_at hl 2 rfl) ?_
                          refine va_get (D := D) (ci := 8) (v := .ref (ad 105)) (C := RX8) (T := TX8) (N := 48) hx hb hts layX8 hown hK hP 0 rfl rfl 5 (by decide) (hts _ (inA q983)) (fun _ h9 => h9) rfl dX8_skip_89 ?_
                          refine lv_iload_n hx hb dX8_skip_92 rfl (lv_at hl 0 rfl) ?_
                          obtain ⟨b2002, hM⟩ := gd_use hM
                          refine va_iald hx hb hK hP 1 0 rfl rfl b2002 dX8_skip_93 ?_
                          refine lv_bipush (v := 42) hx hb dX8_skip_94 (by decide) ?_
                          refine lv_icmp_ne (tgt := 111) hx hb dX8_skip_96 (by decide) (fun c2003 => ?_) (fun c2003 => ?_)
                          · replace hM := if_f c2003 hM
                            obtain ⟨x2004, ex2004⟩ : ∃ y : Int32, y = v3_L80 + 1 := ⟨_, rfl⟩
                            replace hM := nm_use ex2004 hM
                            refine lv_iinc (v := x2004) (lv' := [(3, .int x2004), (1, .int w1_L80), (0, .ref (ad 100))]) hx hb dX8_skip_111 hl (k := 0) rfl (by rw [ex2004]; rfl) (by decide) rfl (fun ls hl => ?_)
                            refine lv_goto (tgt := 80) hx hb dX8_skip_114 (by decide) ?_
                            exact ih_L80 x2004 out_L80 _ _ _ hM hP hD hS (lv_sub hl [0, 1, 2] rfl) kx_L80
                          · replace hM := if_t c2003 hM
                            refine lv_aload_n hx hb dX8_skip_99 rfl (lv_at hl 2 rfl) ?_
                            refine lv_iload_n hx hb dX8_skip_100 rfl (lv_at hl 0 rfl) ?_
                            refine lv_iconst (v := 1) hx hb dX8_skip_101 (by decide) ?_
                            refine lv_iadd hx hb dX8_skip_102 ?_
                            obtain ⟨r2005, hcr2005, hM⟩ := ob_use hM
                            refine cl_V (As := [.int (v3_L80 + 1)]) (rest := []) (wM0 ad o_X_L80 o_L_L80 o_N o_T o_U o_O o_E o_Q o_V o_I ++ wMX cI ad o_X_L80) (.int r2005 :: []) ⟨hx, hb, hml, hown, hts⟩ (c_Model_at l D cI sd ad o_C o_L_L80 o_N o_T o_U o_O o_E o_Q o_V o_I o_X_L80 (v3_L80 + 1) r2005 hcr2005) (cwV2 hts q1159 mvX8_at rfl rfl ⟨(Nat.le_of_ble_eq_true rfl), (Nat.le_of_ble_eq_true rfl)⟩) hK hE hA hP hD hS 0 (T := TX8) (N := 48) (ci := 8) rfl rfl [0, 1] rfl (by decide) rfl rfl rfl rfl rfl rfl hl.1 (Nat.le_of_ble_eq_true rfl) dX8_skip_103 ⟨Nat.zero_le _, Nat.zero_le _⟩ (fun H locs hP hD hS => ?_)
                            refine lv_bipush (v := 41) hx hb dX8_skip_106 (by decide) ?_
                            refine lv_icmp_eq (tgt := 117) hx hb dX8_skip_108 (by decide) (fun c2006 => ?_) (fun c2006 => ?_)
                            · replace hM := if_t c2006 hM
                              cases hM
                              exact kx_L80 _ _ _ hP hD hS (lv_sub hl [0, 1, 2] rfl)
                            · replace hM := if_f c2006 hM
                              obtain ⟨x2007, ex2007⟩ : ∃ y : Int32, y = v3_L80 + 1 := ⟨_, rfl⟩
                              replace hM := nm_use ex2007 hM
                              refine lv_iinc (v := x2007) (lv' := [(3, .int x2007), (1, .int w1_L80), (0, .ref (ad 100))]) hx hb dX8_skip_111 hl (k := 0) rfl (by rw [ex2007]; rfl) (by decide) rfl (fun ls hl => ?_)
                              refine lv_goto (tgt := 80) hx hb dX8_skip_114 (by decide) ?_
                              exact ih_L80 x2007 out_L80 _ _ _ hM hP hD hS (lv_sub hl [0, 1, 2] rfl) kx_L80
                    obtain ⟨r1130, hcr1130, hM⟩ := ob_use hM
                    refine lp_L80 v1_L2 o_X_L2 o_L_L2 FU (o_L_L2.2.2.2.1 + 2) r1130 _ _ _ hcr1130 hP hD hS (lv_sub hl [0, 2, 3] rfl) (fun H locs ls hP hD hS hl => ?_)
                    refine lv_iload_n hx hb dX8_skip_117 rfl (lv_at hl 0 rfl) ?_
                    refine lv_aload_n hx hb dX8_skip_118 rfl (lv_at hl 2 rfl) ?_
                    refine va_get (D := D) (ci := 8) (v := .int o_X_L2.1) (C := RX8) (T := TX8) (N := 48) hx hb hts layX8 hown hK hP 0 rfl rfl 4 (by decide) (hts _ (inA q982)) (fun _ h9 => h9) rfl dX8_skip_119 ?_
                    refine lv_icmp_lt (tgt := 136) hx hb dX8_skip_122 (by decide) (fun c1131 => ?_) (fun c1131 => ?_)
                    · replace hM := if_t c1131 hM
                      refine lv_aload_n hx hb dX8_skip_136 rfl (lv_at hl 2 rfl) ?_
                      refine lv_iload_n hx hb dX8_skip_137 rfl (lv_at hl 0 rfl) ?_
                      refine lv_iconst (v := 2) hx hb dX8_skip_138 (by decide) ?_
                      refine lv_iadd hx hb dX8_skip_139 ?_
                      refine va_put (D := D) (ci := 8) (v := .int (r1130 + 2)) (ty := .int) (C := RX8) (T := TX8) (N := 48) hx hb hts layX8 tyX8 tyX8_ok nmX8 hown hK hP hD hS 0 rfl rfl 9 (by decide) (hts _ (inA q987)) (fun _ h9 => h9) rfl (by decide +kernel) rfl rfl (Nat.le_of_ble_eq_true rfl) dX8_skip_140 (fun H locs hP hD hS => ?_)
                      have hP : va_P D vwCl (wM0 ad o_X_L2 (o_L_L2.1, o_L_L2.2.1, o_L_L2.2.2.1, r1130 + 2, o_L_L2.2.2.2.2) o_N o_T o_U o_O o_E o_Q o_V o_I ++ wMX cI ad o_X_L2) H := hP
                      have hD : va_D A (wM0 ad o_X_L2 (o_L_L2.1, o_L_L2.2.1, o_L_L2.2.2.1, r1130 + 2, o_L_L2.2.2.2.2) o_N o_T o_U o_O o_E o_Q o_V o_I ++ wMX cI ad o_X_L2) := hD
                      refine lv_goto (tgt := 148) hx hb dX8_skip_143 (by decide) ?_
                      refine lv_goto (tgt := 2) hx hb dX8_skip_148 (by decide) ?_
                      exact ih_L2 v1_L2 (o_L_L2.1, o_L_L2.2.1, o_L_L2.2.2.1, r1130 + 2, o_L_L2.2.2.2.2) out_L2 _ _ _ hM hP hD hS (lv_sub hl [1, 2] rfl) kx_L2
                    · replace hM := if_f c1131 hM
                      refine lv_aload_n hx hb dX8_skip_125 rfl (lv_at hl 2 rfl) ?_
                      refine lv_iconst (v := 2) hx hb dX8_skip_126 (by decide) ?_
                      refine lv_aload_n hx hb dX8_skip_127 rfl (lv_at hl 2 rfl) ?_
                      refine va_get (D := D) (ci := 8) (v := .int o_L_L2.2.2.2.1) (C := RX8) (T := TX8) (N := 48) hx hb hts layX8 hown hK hP 0 rfl rfl 9 (by decide) (hts _ (inA q987)) (fun _ h9 => h9) rfl dX8_skip_128 ?_
                      obtain ⟨r1132, hcr1132, hM⟩ := ob_use hM
                      refine cl_V (As := [.int 2, .int o_L_L2.2.2.2.1]) (rest := []) (wM0 ad o_X_L2 r1132 o_N o_T o_U o_O o_E o_Q o_V o_I ++ wMX cI ad o_X_L2) [] ⟨hx, hb, hml, hown, hts⟩ (c_Model_fail l D cI sd ad o_C o_X_L2 o_N o_T o_U o_O o_E o_Q o_V o_I o_L_L2 2 o_L_L2.2.2.2.1 r1132 hcr1132) (cwV2 hts q1163 mvX8_fail rfl rfl ⟨(Nat.le_of_ble_eq_true rfl), (Nat.le_of_ble_eq_true rfl)⟩) hK hE hA hP hD hS 0 (T := TX8) (N := 48) (ci := 8) rfl rfl [0] rfl (by decide) rfl rfl rfl rfl rfl rfl hl.1 (Nat.le_of_ble_eq_true rfl) dX8_skip_131 ⟨Nat.zero_le _, Nat.zero_le _⟩ (fun H locs hP hD hS => ?_)
                      refine lv_iconst (v := 0) hx hb dX8_skip_134 (by decide) ?_
                      refine lv_istore_n (lv' := [(1, .int 0), (3, .int r1130), (0, .ref (ad 100))]) hx hb dX8_skip_135 rfl hl (by decide) rfl (fun ls hl => ?_)
                      refine lv_aload_n hx hb dX8_skip_136 rfl (lv_at hl 2 rfl) ?_
                      refine lv_iload_n hx hb dX8_skip_137 rfl (lv_at hl 1 rfl) ?_
                      refine lv_iconst (v := 2) hx hb dX8_skip_138 (by decide) ?_
                      refine lv_iadd hx hb dX8_skip_139 ?_
                      refine va_put (D := D) (ci := 8) (v := .int (r1130 + 2)) (ty := .int) (C := RX8) (T := TX8) (N := 48) hx hb hts layX8 tyX8 tyX8_ok nmX8 hown hK hP hD hS 0 rfl rfl 9 (by decide) (hts _ (inA q987)) (fun _ h9 => h9) rfl (by decide +kernel) rfl rfl (Nat.le_of_ble_eq_true rfl) dX8_skip_140 (fun H locs hP hD hS => ?_)
                      have hP : va_P D vwCl (wM0 ad o_X_L2 (r1132.1, r1132.2.1, r1132.2.2.1, r1130 + 2, r1132.2.2.2.2) o_N o_T o_U o_O o_E o_Q o_V o_I ++ wMX cI ad o_X_L2) H := hP
                      have hD : va_D A (wM0 ad o_X_L2 (r1132.1, r1132.2.1, r1132.2.2.1, r1130 + 2, r1132.2.2.2.2) o_N o_T o_U o_O o_E o_Q o_V o_I ++ wMX cI ad o_X_L2) := hD
                      refine lv_goto (tgt := 148) hx hb dX8_skip_143 (by decide) ?_
                      refine lv_goto (tgt := 2) hx hb dX8_skip_148 (by decide) ?_
                      exact ih_L2 0 (r1132.1, r1132.2.1, r1132.2.2.1, r1130 + 2, r1132.2.2.2.2) out_L2 _ _ _ hM hP hD hS (lv_sub hl [0, 2] rfl) kx_L2
              · replace hM := if_t c1126 hM
                refine lv_aload_n hx hb dX8_skip_39 rfl (lv_at hl 2 rfl) ?_
                refine lv_dup hx hb dX8_skip_40 rfl ?_
                refine va_get (D := D) (ci := 8) (v := .int o_L_L2.2.2.2.1) (C := RX8) (T := TX8) (N := 48) hx hb hts layX8 hown hK hP 0 rfl rfl 9 (by decide) (hts _ (inA q987)) (fun _ h9 => h9) rfl dX8_skip_41 ?_
                refine lv_iconst (v := 1) hx hb dX8_skip_44 (by decide) ?_
                refine lv_iadd hx hb dX8_skip_45 ?_
                refine va_put (D := D) (ci := 8) (v := .int (o_L_L2.2.2.2.1 + 1)) (ty := .int) (C := RX8) (T := TX8) (N := 48) hx hb hts layX8 tyX8 tyX8_ok nmX8 hown hK hP hD hS 0 rfl rfl 9 (by decide) (hts _ (inA q987)) (fun _ h9 => h9) rfl (by decide +kernel) rfl rfl (Nat.le_of_ble_eq_true rfl) dX8_skip_46 (fun H locs hP hD hS => ?_)
                have hP : va_P D vwCl (wM0 ad o_X_L2 (o_L_L2.1, o_L_L2.2.1, o_L_L2.2.2.1, o_L_L2.2.2.2.1 + 1, o_L_L2.2.2.2.2) o_N o_T o_U o_O o_E o_Q o_V o_I ++ wMX cI ad o_X_L2) H := hP
                have hD : va_D A (wM0 ad o_X_L2 (o_L_L2.1, o_L_L2.2.1, o_L_L2.2.2.1, o_L_L2.2.2.2.1 + 1, o_L_L2.2.2.2.2) o_N o_T o_U o_O o_E o_Q o_V o_I ++ wMX cI ad o_X_L2) := hD
                refine lv_goto (tgt := 148) hx hb dX8_skip_49 (by decide) ?_
                refine lv_goto (tgt := 2) hx hb dX8_skip_148 (by decide) ?_
                exact ih_L2 v1_L2 (o_L_L2.1, o_L_L2.2.1, o_L_L2.2.2.1, o_L_L2.2.2.2.1 + 1, o_L_L2.2.2.2.2) out_L2 _ _ _ hM hP hD hS (lv_sub hl [1, 2] rfl) kx_L2
  obtain ⟨r1, hcr1, hM⟩ := ob_use hM
  refine lp_L2 o_X FU 1 o_L r1 _ _ _ hcr1 hP hD hS (lv_sub hl [0, 1] rfl) (fun H locs ls hP hD hS hl => ?_)
  cases hM
  exact rt_v hx hb hr hlk hP hD hS rfl dX8_skip_151

set_option maxHeartbeats 4000000 in
set_option maxRecDepth 100000 in
theorem c_Model_wordOf (l : Launch) (D : va_G) (cI : ClassId) (sd : Nat → Nat) (ad : Nat → Nat) (o_L : S_ML) (o_N : S_MN) (o_T : S_MT) (o_U : S_MU) (o_O : S_MO) (o_E : S_ME) (o_Q : S_MQ) (o_V : S_MV) (o_I : S_MI) (o_C : S_MC) (o_X : S_MX) (a1 : Int32) (a2 : Int32) (res : Int32) (hM : f_Model_wordOf o_C o_X a1 a2 = some res) : Ctr l D cI sd yX8_wordOf (wsM yX8_wordOf cX8_wordOf 6 (Option.some Jvm.ClassFile.FieldType.int)) { frames := 1, cells := 0, slots := 0, locals := 20 } [.ref (ad 100), .int a1, .int a2] (wM0 ad o_X o_L o_N o_T o_U o_O o_E o_Q o_V o_I ++ wMC cI ad o_C ++ wMX cI ad o_X) (wM0 ad o_X o_L o_N o_T o_U o_O o_E o_Q o_V o_I ++ wMC cI ad o_C ++ wMX cI ad o_X) (some (.int res)) := by
  refine Ctr.of (cc := cX8_wordOf) (maxL := 6) (own := RX8) (by decide +kernel) rfl rfl (Nat.le_of_ble_eq_true rfl) ?_
  intro p e s m below meth c A ls hx hb hr hml hown hts hlk hK hE hA hP hD hS hl
  have hl : lv_has ls 6 [(0, .ref (ad 100)), (1, .int a1), (2, .int a2)] := hl
  unfold f_Model_wordOf at hM
  refine lv_iconst (v := 0) hx hb dX8_wordOf_0 (by decide) ?_
  refine lv_istore_n (lv' := [(3, .int 0), (0, .ref (ad 100)), (1, .int a1), (2, .int a2)]) hx hb dX8_wordOf_1 rfl hl (by decide) rfl (fun ls hl => ?_)
  have lp_L2 : ∀ (w1_L2 : Int32) (w2_L2 : Int32) (n : Nat) (v3_L2 : Int32) (H : Heap) (locs : List Loc) (ls : Array Slot), f_Model_wordOf_L2 o_C o_X w1_L2 w2_L2 n v3_L2 = some res → va_P D vwCl (wM0 ad o_X o_L o_N o_T o_U o_O o_E o_Q o_V o_I ++ wMC cI ad o_C ++ wMX cI ad o_X) H → va_D A (wM0 ad o_X o_L o_N o_T o_U o_O o_E o_Q o_V o_I ++ wMC cI ad o_C ++ wMX cI ad o_X) → va_S A s.heap H locs → lv_has ls 6 [(3, .int v3_L2), (0, .ref (ad 100)), (1, .int w1_L2), (2, .int w2_L2)] → W p l e { frames := 1, cells := 0, slots := 0, locals := 20 } s m [.ref (ad 100), .int a1, .int a2].toArray below meth c H locs 0 0 (MQ below (CQ D A (wM0 ad o_X o_L o_N o_T o_U o_O o_E o_Q o_V o_I ++ wMC cI ad o_C ++ wMX cI ad o_X) (some (.int res))) [.ref (ad 100), .int a1, .int a2].toArray s 0 0 A) (F0 m 2 ls []) := by
    intro w1_L2 w2_L2 n
    induction n with
    | zero => intro v3_L2 H locs ls hM; exact absurd (show none = some _ from hM) (by simp)
    | succ n ih_L2 =>
      intro v3_L2 H locs ls hM hP hD hS hl
      rw [f_Model_wordOf_L2] at hM
      refine lv_iload_n hx hb dX8_wordOf_2 rfl (lv_at hl 0 rfl) ?_
      refine lv_bipush (v := 41) hx hb dX8_wordOf_3 (by decide) ?_
      refine lv_icmp_ge (tgt := 105) hx hb dX8_wordOf_5 (by decide) (fun c1121 => ?_) (fun c1121 => ?_)
      · replace hM := if_t c1121 hM
        refine lv_iconst (v := (-1)) hx hb dX8_wordOf_105 (by decide) ?_
        cases hM
        exact rt_i hx hb hr hlk hP hD hS rfl dX8_wordOf_106
      · replace hM := if_f c1121 hM
        refine lv_aload_n hx hb dX8_wordOf_8 rfl (lv_at hl 1 rfl) ?_
        refine va_get (D := D) (ci := 8) (v := .ref (ad 102)) (C := RX8) (T := TX8) (N := 48) hx hb hts layX8 hown hK hP 0 rfl rfl 1 (by decide) (hts _ (inA q979)) (fun _ h9 => h9) rfl dX8_wordOf_9 ?_
        refine lv_iload_n hx hb dX8_wordOf_12 rfl (lv_at hl 0 rfl) ?_
        refine lv_iconst (v := 1) hx hb dX8_wordOf_13 (by decide) ?_
        refine lv_iadd hx hb dX8_wordOf_14 ?_
        obtain ⟨b1122, hM⟩ := gd_use hM
        refine va_iald hx hb hK hP 2 0 rfl rfl b1122 dX8_wordOf_15 ?_
        refine lv_aload_n hx hb dX8_wordOf_16 rfl (lv_at hl 1 rfl) ?_
        refine va_get (D := D) (ci := 8) (v := .ref (ad 102)) (C := RX8) (T := TX8) (N := 48) hx hb hts layX8 hown hK hP 0 rfl rfl 1 (by decide) (hts _ (inA q979)) (fun _ h9 => h9) rfl dX8_wordOf_17 ?_
        refine lv_iload_n hx hb dX8_wordOf_20 rfl (lv_at hl 0 rfl) ?_
        obtain ⟨b1123, hM⟩ := gd_use hM
        refine va_iald hx hb hK hP 2 0 rfl rfl b1123 dX8_wordOf_21 ?_
        refine lv_isub hx hb dX8_wordOf_22 ?_
        refine lv_iconst (v := 1) hx hb dX8_wordOf_23 (by decide) ?_
        refine lv_isub hx hb dX8_wordOf_24 ?_
        refine lv_iload_n hx hb dX8_wordOf_25 rfl (lv_at hl 3 rfl) ?_
        refine lv_icmp_ne (tgt := 33) hx hb dX8_wordOf_26 (by decide) (fun c1124 => ?_) (fun c1124 => ?_)
        · replace hM := if_f c1124 hM
          refine lv_iconst (v := 0) hx hb dX8_wordOf_33 (by decide) ?_
          refine lv_istore (lv' := [(4, .int 0), (3, .int v3_L2), (0, .ref (ad 100)), (1, .int w1_L2), (2, .int w2_L2)]) hx hb dX8_wordOf_34 hl (by decide) rfl (fun ls hl => ?_)
          refine lv_iconst (v := 0) hx hb dX8_wordOf_36 (by decide) ?_
          refine lv_istore (lv' := [(5, .int 0), (4, .int 0), (3, .int v3_L2), (0, .ref (ad 100)), (1, .int w1_L2), (2, .int w2_L2)]) hx hb dX8_wordOf_37 hl (by decide) rfl (fun ls hl => ?_)
          have lp_L39 : ∀ (w3_L39 : Int32) (w1_L39 : Int32) (w2_L39 : Int32) (o_C_L39 : S_MC) (o_X_L39 : S_MX) (n : Nat) (v5_L39 : Int32) (v4_L39 : Int32) (out_L39 : Int32) (H : Heap) (locs : List Loc) (ls : Array Slot), f_Model_wordOf_L39 w3_L39 w1_L39 w2_L39 o_C_L39 o_X_L39 n v5_L39 v4_L39 = some out_L39 → va_P D vwCl (wM0 ad o_X_L39 o_L o_N o_T o_U o_O o_E o_Q o_V o_I ++ wMC cI ad o_C_L39 ++ wMX cI ad o_X_L39) H → va_D A (wM0 ad o_X_L39 o_L o_N o_T o_U o_O o_E o_Q o_V o_I ++ wMC cI ad o_C_L39 ++ wMX cI ad o_X_L39) → va_S A s.heap H locs → lv_has ls 6 [(5, .int v5_L39), (4, .int v4_L39), (3, .int w3_L39), (0, .ref (ad 100)), (1, .int w1_L39), (2, .int w2_L39)] → (∀ (H : Heap) (locs : List Loc) (ls : Array Slot), va_P D vwCl (wM0 ad o_X_L39 o_L o_N o_T o_U o_O o_E o_Q o_V o_I ++ wMC cI ad o_C_L39 ++ wMX cI ad o_X_L39) H → va_D A (wM0 ad o_X_L39 o_L o_N o_T o_U o_O o_E o_Q o_V o_I ++ wMC cI ad o_C_L39 ++ wMX cI ad o_X_L39) → va_S A s.heap H locs → lv_has ls 6 [(4, .int out_L39), (3, .int w3_L39), (0, .ref (ad 100)), (1, .int w1_L39), (2, .int w2_L39)] → W p l e { frames := 1, cells := 0, slots := 0, locals := 20 } s m [.ref (ad 100), .int a1, .int a2].toArray below meth c H locs 0 0 (MQ below (CQ D A (wM0 ad o_X o_L o_N o_T o_U o_O o_E o_Q o_V o_I ++ wMC cI ad o_C ++ wMX cI ad o_X) (some (.int res))) [.ref (ad 100), .int a1, .int a2].toArray s 0 0 A) (F0 m 92 ls [])) → W p l e { frames := 1, cells := 0, slots := 0, locals := 20 } s m [.ref (ad 100), .int a1, .int a2].toArray below meth c H locs 0 0 (MQ below (CQ D A (wM0 ad o_X o_L o_N o_T o_U o_O o_E o_Q o_V o_I ++ wMC cI ad o_C ++ wMX cI ad o_X) (some (.int res))) [.ref (ad 100), .int a1, .int a2].toArray s 0 0 A) (F0 m 39 ls []) := by
            intro w3_L39 w1_L39 w2_L39 o_C_L39 o_X_L39 n
            induction n with
            | zero => intro v5_L39 v4_L39 out_L39 H locs ls hM; exact absurd (show none = some _ from hM) (by simp)
            | succ n ih_L39 =>
              intro v5_L39 v4_L39 out_L39 H locs ls hM hP hD hS hl kx_L39
              rw [f_Model_wordOf_L39] at hM
              refine lv_iload hx hb dX8_wordOf_39 (lv_at hl 0 rfl) ?_
              refine lv_iload_n hx hb dX8_wordOf_41 rfl (lv_at hl 5 rfl) ?_
              refine lv_icmp_ge (tgt := 92) hx hb dX8_wordOf_42 (by decide) (fun c1591 => ?_) (fun c1591 => ?_)
              · replace hM := if_t c1591 hM
                cases hM
                exact kx_L39 _ _ _ hP hD hS (lv_sub hl [1, 2, 3, 4, 5] rfl)
              · replace hM := if_f c1591 hM
                refine lv_iload hx hb dX8_wordOf_45 (lv_at hl 1 rfl) ?_
                refine lv_if_eq (tgt := 92) hx hb dX8_wordOf_47 (by decide) (fun c1592 => ?_) (fun c1592 => ?_)
                · replace hM := if_t c1592 hM
                  cases hM
                  exact kx_L39 _ _ _ hP hD hS (lv_sub hl [1, 2, 3, 4, 5] rfl)
                · replace hM := if_f c1592 hM
                  refine lv_aload_n hx hb dX8_wordOf_50 rfl (lv_at hl 3 rfl) ?_
                  refine va_get (D := D) (ci := 8) (v := .ref (ad 101)) (C := RX8) (T := TX8) (N := 48) hx hb hts layX8 hown hK hP 0 rfl rfl 0 (by decide) (hts _ (inA q978)) (fun _ h9 => h9) rfl dX8_wordOf_51 ?_
                  refine lv_aload_n hx hb dX8_wordOf_54 rfl (lv_at hl 3 rfl) ?_
                  refine va_get (D := D) (ci := 8) (v := .ref (ad 102)) (C := RX8) (T := TX8) (N := 48) hx hb hts layX8 hown hK hP 0 rfl rfl 1 (by decide) (hts _ (inA q979)) (fun _ h9 => h9) rfl dX8_wordOf_55 ?_
                  refine lv_iload_n hx hb dX8_wordOf_58 rfl (lv_at hl 2 rfl) ?_
                  obtain ⟨b1593, hM⟩ := gd_use hM
                  refine va_iald hx hb hK hP 2 0 rfl rfl b1593 dX8_wordOf_59 ?_
                  refine lv_iload hx hb dX8_wordOf_60 (lv_at hl 0 rfl) ?_
                  refine lv_iadd hx hb dX8_wordOf_62 ?_
                  obtain ⟨b1594, hM⟩ := gd_use hM
                  refine va_iald hx hb hK hP 1 0 rfl rfl b1594 dX8_wordOf_63 ?_
                  refine lv_aload_n hx hb dX8_wordOf_64 rfl (lv_at hl 3 rfl) ?_
                  refine va_get (D := D) (ci := 8) (v := .ref (ad 105)) (C := RX8) (T := TX8) (N := 48) hx hb hts layX8 hown hK hP 0 rfl rfl 5 (by decide) (hts _ (inA q983)) (fun _ h9 => h9) rfl dX8_wordOf_65 ?_
                  refine lv_iload_n hx hb dX8_wordOf_68 rfl (lv_at hl 4 rfl) ?_
                  refine lv_iload hx hb dX8_wordOf_69 (lv_at hl 0 rfl) ?_
                  refine lv_iadd hx hb dX8_wordOf_71 ?_
                  obtain ⟨b1595, hM⟩ := gd_use hM
                  refine va_iald hx hb hK hP 5 0 rfl rfl b1595 dX8_wordOf_72 ?_
                  obtain ⟨r1596, hcr1596, hM⟩ := ob_use hM
                  refine cl_S (As := [.int (o_X_L39.2 (w1_L39 + v5_L39).toNatClampNeg)]) (rest := [.int (o_C_L39.1 ((o_C_L39.2.1 w3_L39.toNatClampNeg) + v5_L39).toNatClampNeg)]) (wM0 ad o_X_L39 o_L o_N o_T o_U o_O o_E o_Q o_V o_I ++ wMC cI ad o_C_L39 ++ wMX cI ad o_X_L39) (.int r1596 :: [.int (o_C_L39.1 ((o_C_L39.2.1 w3_L39.toNatClampNeg) + v5_L39).toNatClampNeg)]) ⟨hx, hb, hml, hown, hts⟩ (c_Model_great l D cI sd ad (o_X_L39.2 (w1_L39 + v5_L39).toNatClampNeg) r1596 hcr1596) (cwS2 hts q1178 mvX8_great rfl rfl ⟨(Nat.le_of_ble_eq_true rfl), (Nat.le_of_ble_eq_true rfl)⟩) hK hE hA hP hD hS [] rfl (by decide) rfl rfl rfl rfl rfl rfl hl.1 (Nat.le_of_ble_eq_true rfl) dX8_wordOf_73 ⟨Nat.zero_le _, Nat.zero_le _⟩ (fun H locs hP hD hS => ?_)
                  refine lv_icmp_ne (tgt := 83) hx hb dX8_wordOf_76 (by decide) (fun c1597 => ?_) (fun c1597 => ?_)
                  · replace hM := if_f c1597 hM
                    refine lv_iconst (v := 0) hx hb dX8_wordOf_83 (by decide) ?_
                    refine lv_istore (lv' := [(4, .int 0), (5, .int v5_L39), (3, .int w3_L39), (0, .ref (ad 100)), (1, .int w1_L39), (2, .int w2_L39)]) hx hb dX8_wordOf_84 hl (by decide) rfl (fun ls hl => ?_)
                    obtain ⟨x1598, ex1598⟩ : ∃ y : Int32, y = v5_L39 + 1 := ⟨_, rfl⟩
                    replace hM := nm_use ex1598 hM
                    refine lv_iinc (v := x1598) (lv' := [(5, .int x1598), (4, .int 0), (3, .int w3_L39), (0, .ref (ad 100)), (1, .int w1_L39), (2, .int w2_L39)]) hx hb dX8_wordOf_86 hl (k := 1) rfl (by rw [ex1598]; rfl) (by decide) rfl (fun ls hl => ?_)
                    refine lv_goto (tgt := 39) hx hb dX8_wordOf_89 (by decide) ?_
                    exact ih_L39 x1598 0 out_L39 _ _ _ hM hP hD hS (lv_sub hl [0, 1, 2, 3, 4, 5] rfl) kx_L39
                  · replace hM := if_t c1597 hM
                    refine lv_iconst (v := 1) hx hb dX8_wordOf_79 (by decide) ?_
                    refine lv_goto (tgt := 84) hx hb dX8_wordOf_80 (by decide) ?_
                    refine lv_istore (lv' := [(4, .int 1), (5, .int v5_L39), (3, .int w3_L39), (0, .ref (ad 100)), (1, .int w1_L39), (2, .int w2_L39)]) hx hb dX8_wordOf_84 hl (by decide) rfl (fun ls hl => ?_)
                    obtain ⟨x1599, ex1599⟩ : ∃ y : Int32, y = v5_L39 + 1 := ⟨_, rfl⟩
                    replace hM := nm_use ex1599 hM
                    refine lv_iinc (v := x1599) (lv' := [(5, .int x1599), (4, .int 1), (3, .int w3_L39), (0, .ref (ad 100)), (1, .int w1_L39), (2, .int w2_L39)]) hx hb dX8_wordOf_86 hl (k := 1) rfl (by rw [ex1599]; rfl) (by decide) rfl (fun ls hl => ?_)
                    refine lv_goto (tgt := 39) hx hb dX8_wordOf_89 (by decide) ?_
                    exact ih_L39 x1599 1 out_L39 _ _ _ hM hP hD hS (lv_sub hl [0, 1, 2, 3, 4, 5] rfl) kx_L39
          obtain ⟨r1125, hcr1125, hM⟩ := ob_use hM
          refine lp_L39 v3_L2 w1_L2 w2_L2 o_C o_X FU 0 0 r1125 _ _ _ hcr1125 hP hD hS (lv_sub hl [0, 1, 2, 3, 4, 5] rfl) (fun H locs ls hP hD hS hl => ?_)
          refine lv_iload hx hb dX8_wordOf_92 (lv_at hl 0 rfl) ?_
          refine lv_if_eq (tgt := 99) hx hb dX8_wordOf_94 (by decide) (fun c1126 => ?_) (fun c1126 => ?_)
          · replace hM := if_t c1126 hM
            obtain ⟨x1127, ex1127⟩ : ∃ y : Int32, y = v3_L2 + 1 := ⟨_, rfl⟩
            replace hM := nm_use ex1127 hM
            refine lv_iinc (v := x1127) (lv' := [(3, .int x1127), (4, .int r1125), (0, .ref (ad 100)), (1, .int w1_L2), (2, .int w2_L2)]) hx hb dX8_wordOf_99 hl (k := 1) rfl (by rw [ex1127]; rfl) (by decide) rfl (fun ls hl => ?_)
            refine lv_goto (tgt := 2) hx hb dX8_wordOf_102 (by decide) ?_
            exact ih_L2 x1127 _ _ _ hM hP hD hS (lv_sub hl [0, 2, 3, 4] rfl)
          · replace hM := if_f c1126 hM
            refine lv_iload_n hx hb dX8_wordOf_97 rfl (lv_at hl 1 rfl) ?_
            cases hM
            exact rt_i hx hb hr hlk hP hD hS rfl dX8_wordOf_98
        · replace hM := if_t c1124 hM
          refine lv_iconst (v := 1) hx hb dX8_wordOf_29 (by decide) ?_
          refine lv_goto (tgt := 34) hx hb dX8_wordOf_30 (by decide) ?_
          refine lv_istore (lv' := [(4, .int 1), (3, .int v3_L2), (0, .ref (ad 100)), (1, .int w1_L2), (2, .int w2_L2)]) hx hb dX8_wordOf_34 hl (by decide) rfl (fun ls hl => ?_)
          refine lv_iconst (v := 0) hx hb dX8_wordOf_36 (by decide) ?_
          refine lv_istore (lv' := [(5, .int 0), (4, .int 1), (3, .int v3_L2), (0, .ref (ad 100)), (1, .int w1_L2), (2, .int w2_L2)]) hx hb dX8_wordOf_37 hl (by decide) rfl (fun ls hl => ?_)
          have lp_L39 : ∀ (w3_L39 : Int32) (w1_L39 : Int32) (w2_L39 : Int32) (o_C_L39 : S_MC) (o_X_L39 : S_MX) (n : Nat) (v5_L39 : Int32) (v4_L39 : Int32) (out_L39 : Int32) (H : Heap) (locs : List Loc) (ls : Array Slot), f_Model_wordOf_L39 w3_L39 w1_L39 w2_L39 o_C_L39 o_X_L39 n v5_L39 v4_L39 = some out_L39 → va_P D vwCl (wM0 ad o_X_L39 o_L o_N o_T o_U o_O o_E o_Q o_V o_I ++ wMC cI ad o_C_L39 ++ wMX cI ad o_X_L39) H → va_D A (wM0 ad o_X_L39 o_L o_N o_T o_U o_O o_E o_Q o_V o_I ++ wMC cI ad o_C_L39 ++ wMX cI ad o_X_L39) → va_S A s.heap H locs → lv_has ls 6 [(5, .int v5_L39), (4, .int v4_L39), (3, .int w3_L39), (0, .ref (ad 100)), (1, .int w1_L39), (2, .int w2_L39)] → (∀ (H : Heap) (locs : List Loc) (ls : Array Slot), va_P D vwCl (wM0 ad o_X_L39 o_L o_N o_T o_U o_O o_E o_Q o_V o_I ++ wMC cI ad o_C_L39 ++ wMX cI ad o_X_L39) H → va_D A (wM0 ad o_X_L39 o_L o_N o_T o_U o_O o_E o_Q o_V o_I ++ wMC cI ad o_C_L39 ++ wMX cI ad o_X_L39) → va_S A s.heap H locs → lv_has ls 6 [(4, .int out_L39), (3, .int w3_L39), (0, .ref (ad 100)), (1, .int w1_L39), (2, .int w2_L39)] → W p l e { frames := 1, cells := 0, slots := 0, locals := 20 } s m [.ref (ad 100), .int a1, .int a2].toArray below meth c H locs 0 0 (MQ below (CQ D A (wM0 ad o_X o_L o_N o_T o_U o_O o_E o_Q o_V o_I ++ wMC cI ad o_C ++ wMX cI ad o_X) (some (.int res))) [.ref (ad 100), .int a1, .int a2].toArray s 0 0 A) (F0 m 92 ls [])) → W p l e { frames := 1, cells := 0, slots := 0, locals := 20 } s m [.ref (ad 100), .int a1, .int a2].toArray below meth c H locs 0 0 (MQ below (CQ D A (wM0 ad o_X o_L o_N o_T o_U o_O o_E o_Q o_V o_I ++ wMC cI ad o_C ++ wMX cI ad o_X) (some (.int res))) [.ref (ad 100), .int a1, .int a2].toArray s 0 0 A) (F0 m 39 ls []) := by
            intro w3_L39 w1_L39 w2_L39 o_C_L39 o_X_L39 n
            induction n with
            | zero => intro v5_L39 v4_L39 out_L39 H locs ls hM; exact absurd (show none = some _ from hM) (by simp)
            | succ n ih_L39 =>
              intro v5_L39 v4_L39 out_L39 H locs ls hM hP hD hS hl kx_L39
              rw [f_Model_wordOf_L39] at hM
              refine lv_iload hx hb dX8_wordOf_39 (lv_at hl 0 rfl) ?_
              refine lv_iload_n hx hb dX8_wordOf_41 rfl (lv_at hl 5 rfl) ?_
              refine lv_icmp_ge (tgt := 92) hx hb dX8_wordOf_42 (by decide) (fun c1591 => ?_) (fun c1591 => ?_)
              · replace hM := if_t c1591 hM
                cases hM
                exact kx_L39 _ _ _ hP hD hS (lv_sub hl [1, 2, 3, 4, 5] rfl)
              · replace hM := if_f c1591 hM
                refine lv_iload hx hb dX8_wordOf_45 (lv_at hl 1 rfl) ?_
                refine lv_if_eq (tgt := 92) hx hb dX8_wordOf_47 (by decide) (fun c1592 => ?_) (fun c1592 => ?_)
                · replace hM := if_t c1592 hM
                  cases hM
                  exact kx_L39 _ _ _ hP hD hS (lv_sub hl [1, 2, 3, 4, 5] rfl)
                · replace hM := if_f c1592 hM
                  refine lv_aload_n hx hb dX8_wordOf_50 rfl (lv_at hl 3 rfl) ?_
                  refine va_get (D := D) (ci := 8) (v := .ref (ad 101)) (C := RX8) (T := TX8) (N := 48) hx hb hts layX8 hown hK hP 0 rfl rfl 0 (by decide) (hts _ (inA q978)) (fun _ h9 => h9) rfl dX8_wordOf_51 ?_
                  refine lv_aload_n hx hb dX8_wordOf_54 rfl (lv_at hl 3 rfl) ?_
                  refine va_get (D := D) (ci := 8) (v := .ref (ad 102)) (C := RX8) (T := TX8) (N := 48) hx hb hts layX8 hown hK hP 0 rfl rfl 1 (by decide) (hts _ (inA q979)) (fun _ h9 => h9) rfl dX8_wordOf_55 ?_
                  refine lv_iload_n hx hb dX8_wordOf_58 rfl (lv_at hl 2 rfl) ?_
                  obtain ⟨b1593, hM⟩ := gd_use hM
                  refine va_iald hx hb hK hP 2 0 rfl rfl b1593 dX8_wordOf_59 ?_
                  refine lv_iload hx hb dX8_wordOf_60 (lv_at hl 0 rfl) ?_
                  refine lv_iadd hx hb dX8_wordOf_62 ?_
                  obtain ⟨b1594, hM⟩ := gd_use hM
                  refine va_iald hx hb hK hP 1 0 rfl rfl b1594 dX8_wordOf_63 ?_
                  refine lv_aload_n hx hb dX8_wordOf_64 rfl (lv_at hl 3 rfl) ?_
                  refine va_get (D := D) (ci := 8) (v := .ref (ad 105)) (C := RX8) (T := TX8) (N := 48) hx hb hts layX8 hown hK hP 0 rfl rfl 5 (by decide) (hts _ (inA q983)) (fun _ h9 => h9) rfl dX8_wordOf_65 ?_
                  refine lv_iload_n hx hb dX8_wordOf_68 rfl (lv_at hl 4 rfl) ?_
                  refine lv_iload hx hb dX8_wordOf_69 (lv_at hl 0 rfl) ?_
                  refine lv_iadd hx hb dX8_wordOf_71 ?_
                  obtain ⟨b1595, hM⟩ := gd_use hM
                  refine va_iald hx hb hK hP 5 0 rfl rfl b1595 dX8_wordOf_72 ?_
                  obtain ⟨r1596, hcr1596, hM⟩ := ob_use hM
                  refine cl_S (As := [.int (o_X_L39.2 (w1_L39 + v5_L39).toNatClampNeg)]) (rest := [.int (o_C_L39.1 ((o_C_L39.2.1 w3_L39.toNatClampNeg) + v5_L39).toNatClampNeg)]) (wM0 ad o_X_L39 o_L o_N o_T o_U o_O o_E o_Q o_V o_I ++ wMC cI ad o_C_L39 ++ wMX cI ad o_X_L39) (.int r1596 :: [.int (o_C_L39.1 ((o_C_L39.2.1 w3_L39.toNatClampNeg) + v5_L39).toNatClampNeg)]) ⟨hx, hb, hml, hown, hts⟩ (c_Model_great l D cI sd ad (o_X_L39.2 (w1_L39 + v5_L39).toNatClampNeg) r1596 hcr1596) (cwS2 hts q1178 mvX8_great rfl rfl ⟨(Nat.le_of_ble_eq_true rfl), (Nat.le_of_ble_eq_true rfl)⟩) hK hE hA hP hD hS [] rfl (by decide) rfl rfl rfl rfl rfl rfl hl.1 (Nat.le_of_ble_eq_true rfl) dX8_wordOf_73 ⟨Nat.zero_le _, Nat.zero_le _⟩ (fun H locs hP hD hS => ?_)
                  refine lv_icmp_ne (tgt := 83) hx hb dX8_wordOf_76 (by decide) (fun c1597 => ?_) (fun c1597 => ?_)
                  · replace hM := if_f c1597 hM
                    refine lv_iconst (v := 0) hx hb dX8_wordOf_83 (by decide) ?_
                    refine lv_istore (lv' := [(4, .int 0), (5, .int v5_L39), (3, .int w3_L39), (0, .ref (ad 100)), (1, .int w1_L39), (2, .int w2_L39)]) hx hb dX8_wordOf_84 hl (by decide) rfl (fun ls hl => ?_)
                    obtain ⟨x1598, ex1598⟩ : ∃ y : Int32, y = v5_L39 + 1 := ⟨_, rfl⟩
                    replace hM := nm_use ex1598 hM
                    refine lv_iinc (v := x1598) (lv' := [(5, .int x1598), (4, .int 0), (3, .int w3_L39), (0, .ref (ad 100)), (1, .int w1_L39), (2, .int w2_L39)]) hx hb dX8_wordOf_86 hl (k := 1) rfl (by rw [ex1598]; rfl) (by decide) rfl (fun ls hl => ?_)
                    refine lv_goto (tgt := 39) hx hb dX8_wordOf_89 (by decide) ?_
                    exact ih_L39 x1598 0 out_L39 _ _ _ hM hP hD hS (lv_sub hl [0, 1, 2, 3, 4, 5] rfl) kx_L39
                  · replace hM := if_t c1597 hM
                    refine lv_iconst (v := 1) hx hb dX8_wordOf_79 (by decide) ?_
                    refine lv_goto (tgt := 84) hx hb dX8_wordOf_80 (by decide) ?_
                    refine lv_istore (lv' := [(4, .int 1), (5, .int v5_L39), (3, .int w3_L39), (0, .ref (ad 100)), (1, .int w1_L39), (2, .int w2_L39)]) hx hb dX8_wordOf_84 hl (by decide) rfl (fun ls hl => ?_)
                    obtain ⟨x1599, ex1599⟩ : ∃ y : Int32, y = v5_L39 + 1 := ⟨_, rfl⟩
                    replace hM := nm_use ex1599 hM
                    refine lv_iinc (v := x1599) (lv' := [(5, .int x1599), (4, .int 1), (3, .int w3_L39), (0, .ref (ad 100)), (1, .int w1_L39), (2, .int w2_L39)]) hx hb dX8_wordOf_86 hl (k := 1) rfl (by rw [ex1599]; rfl) (by decide) rfl (fun ls hl => ?_)
                    refine lv_goto (tgt := 39) hx hb dX8_wordOf_89 (by decide) ?_
                    exact ih_L39 x1599 1 out_L39 _ _ _ hM hP hD hS (lv_sub hl [0, 1, 2, 3, 4, 5] rfl) kx_L39
          obtain ⟨r1128, hcr1128, hM⟩ := ob_use hM
          refine lp_L39 v3_L2 w1_L2 w2_L2 o_C o_X FU 0 1 r1128 _ _ _ hcr1128 hP hD hS (lv_sub hl [0, 1, 2, 3, 4, 5] rfl) (fun H locs ls hP hD hS hl => ?_)
          refine lv_iload hx hb dX8_wordOf_92 (lv_at hl 0 rfl) ?_
          refine lv_if_eq (tgt := 99) hx hb dX8_wordOf_94 (by decide) (fun c1129 => ?_) (fun c1129 => ?_)
          · replace hM := if_t c1129 hM
            obtain ⟨x1130, ex1130⟩ : ∃ y : Int32, y = v3_L2 + 1 := ⟨_, rfl⟩
            replace hM := nm_use ex1130 hM
            refine lv_iinc (v := x1130) (lv' := [(3, .int x1130), (4, .int r1128), (0, .ref (ad 100)), (1, .int w1_L2), (2, .int w2_L2)]) hx hb dX8_wordOf_99 hl (k := 1) rfl (by rw [ex1130]; rfl) (by decide) rfl (fun ls hl => ?_)
            refine lv_goto (tgt := 2) hx hb dX8_wordOf_102 (by decide) ?_
            exact ih_L2 x1130 _ _ _ hM hP hD hS (lv_sub hl [0, 2, 3, 4] rfl)
          · replace hM := if_f c1129 hM
            refine lv_iload_n hx hb dX8_wordOf_97 rfl (lv_at hl 1 rfl) ?_
            cases hM
            exact rt_i hx hb hr hlk hP hD hS rfl dX8_wordOf_98
  exact lp_L2 a1 a2 FU 0 _ _ _ hM hP hD hS (lv_sub hl [0, 1, 2, 3] rfl)

set_option maxHeartbeats 4000000 in
set_option maxRecDepth 100000 in
theorem c_Model_nameOf (l : Launch) (D : va_G) (cI : ClassId) (sd : Nat → Nat) (ad : Nat → Nat) (o_C : S_MC) (o_L : S_ML) (o_T : S_MT) (o_U : S_MU) (o_O : S_MO) (o_E : S_ME) (o_Q : S_MQ) (o_V : S_MV) (o_I : S_MI) (o_X : S_MX) (o_N : S_MN) (a1 : Int32) (a2 : Int32) (res : Int32 × S_MN) (hM : f_Model_nameOf o_X o_N a1 a2 = some res) : Ctr l D cI sd yX8_nameOf (wsM yX8_nameOf cX8_nameOf 6 (Option.some Jvm.ClassFile.FieldType.int)) { frames := 1, cells := 0, slots := 0, locals := 20 } [.ref (ad 100), .int a1, .int a2] (wM0 ad o_X o_L o_N o_T o_U o_O o_E o_Q o_V o_I ++ wMX cI ad o_X ++ wMN cI ad o_N) (wM0 ad o_X o_L res.2 o_T o_U o_O o_E o_Q o_V o_I ++ wMX cI ad o_X ++ wMN cI ad res.2) (some (.int res.1)) := by
  refine Ctr.of (cc := cX8_nameOf) (maxL := 6) (own := RX8) (by decide +kernel) rfl rfl (Nat.le_of_ble_eq_true rfl) ?_
  intro p e s m below meth c A ls hx hb hr hml hown hts hlk hK hE hA hP hD hS hl
  have hl : lv_has ls 6 [(0, .ref (ad 100)), (1, .int a1), (2, .int a2)] := hl
  unfold f_Model_nameOf at hM
  refine lv_iconst (v := 0) hx hb dX8_nameOf_0 (by decide) ?_
  refine lv_istore_n (lv' := [(3, .int 0), (0, .ref (ad 100)), (1, .int a1), (2, .int a2)]) hx hb dX8_nameOf_1 rfl hl (by decide) rfl (fun ls hl => ?_)
  have lp_L2 : ∀ (w1_L2 : Int32) (w2_L2 : Int32) (n : Nat) (v3_L2 : Int32) (H : Heap) (locs : List Loc) (ls : Array Slot), f_Model_nameOf_L2 o_X o_N w1_L2 w2_L2 n v3_L2 = some res → va_P D vwCl (wM0 ad o_X o_L o_N o_T o_U o_O o_E o_Q o_V o_I ++ wMX cI ad o_X ++ wMN cI ad o_N) H → va_D A (wM0 ad o_X o_L o_N o_T o_U o_O o_E o_Q o_V o_I ++ wMX cI ad o_X ++ wMN cI ad o_N) → va_S A s.heap H locs → lv_has ls 6 [(3, .int v3_L2), (0, .ref (ad 100)), (1, .int w1_L2), (2, .int w2_L2)] → W p l e { frames := 1, cells := 0, slots := 0, locals := 20 } s m [.ref (ad 100), .int a1, .int a2].toArray below meth c H locs 0 0 (MQ below (CQ D A (wM0 ad o_X o_L res.2 o_T o_U o_O o_E o_Q o_V o_I ++ wMX cI ad o_X ++ wMN cI ad res.2) (some (.int res.1))) [.ref (ad 100), .int a1, .int a2].toArray s 0 0 A) (F0 m 2 ls []) := by
    intro w1_L2 w2_L2 n
    induction n with
    | zero => intro v3_L2 H locs ls hM; exact absurd (show none = some _ from hM) (by simp)
    | succ n ih_L2 =>
      intro v3_L2 H locs ls hM hP hD hS hl
      rw [f_Model_nameOf_L2] at hM
      refine lv_iload_n hx hb dX8_nameOf_2 rfl (lv_at hl 0 rfl) ?_
      refine lv_aload_n hx hb dX8_nameOf_3 rfl (lv_at hl 1 rfl) ?_
      refine va_get (D := D) (ci := 8) (v := .int o_N.1) (C := RX8) (T := TX8) (N := 48) hx hb hts layX8 hown hK hP 0 rfl rfl 13 (by decide) (hts _ (inA q991)) (fun _ h9 => h9) rfl dX8_nameOf_4 ?_
      refine lv_icmp_ge (tgt := 105) hx hb dX8_nameOf_7 (by decide) (fun c1121 => ?_) (fun c1121 => ?_)
      · replace hM := if_t c1121 hM
        refine lv_iconst (v := 0) hx hb dX8_nameOf_105 (by decide) ?_
        refine lv_istore_n (lv' := [(3, .int 0), (0, .ref (ad 100)), (1, .int w1_L2), (2, .int w2_L2)]) hx hb dX8_nameOf_106 rfl hl (by decide) rfl (fun ls hl => ?_)
        have lp_L107 : ∀ (w1_L107 : Int32) (w2_L107 : Int32) (o_X_L107 : S_MX) (n : Nat) (v3_L107 : Int32) (o_N_L107 : S_MN) (out_L107 : S_MN) (H : Heap) (locs : List Loc) (ls : Array Slot), f_Model_nameOf_L107 w1_L107 w2_L107 o_X_L107 n v3_L107 o_N_L107 = some out_L107 → va_P D vwCl (wM0 ad o_X_L107 o_L o_N_L107 o_T o_U o_O o_E o_Q o_V o_I ++ wMX cI ad o_X_L107 ++ wMN cI ad o_N_L107) H → va_D A (wM0 ad o_X_L107 o_L o_N_L107 o_T o_U o_O o_E o_Q o_V o_I ++ wMX cI ad o_X_L107 ++ wMN cI ad o_N_L107) → va_S A s.heap H locs → lv_has ls 6 [(3, .int v3_L107), (0, .ref (ad 100)), (1, .int w1_L107), (2, .int w2_L107)] → (∀ (H : Heap) (locs : List Loc) (ls : Array Slot), va_P D vwCl (wM0 ad o_X_L107 o_L out_L107 o_T o_U o_O o_E o_Q o_V o_I ++ wMX cI ad o_X_L107 ++ wMN cI ad out_L107) H → va_D A (wM0 ad o_X_L107 o_L out_L107 o_T o_U o_O o_E o_Q o_V o_I ++ wMX cI ad o_X_L107 ++ wMN cI ad out_L107) → va_S A s.heap H locs → lv_has ls 6 [(0, .ref (ad 100)), (1, .int w1_L107), (2, .int w2_L107)] → W p l e { frames := 1, cells := 0, slots := 0, locals := 20 } s m [.ref (ad 100), .int a1, .int a2].toArray below meth c H locs 0 0 (MQ below (CQ D A (wM0 ad o_X o_L res.2 o_T o_U o_O o_E o_Q o_V o_I ++ wMX cI ad o_X ++ wMN cI ad res.2) (some (.int res.1))) [.ref (ad 100), .int a1, .int a2].toArray s 0 0 A) (F0 m 145 ls [])) → W p l e { frames := 1, cells := 0, slots := 0, locals := 20 } s m [.ref (ad 100), .int a1, .int a2].toArray below meth c H locs 0 0 (MQ below (CQ D A (wM0 ad o_X o_L res.2 o_T o_U o_O o_E o_Q o_V o_I ++ wMX cI ad o_X ++ wMN cI ad res.2) (some (.int res.1))) [.ref (ad 100), .int a1, .int a2].toArray s 0 0 A) (F0 m 107 ls []) := by
          intro w1_L107 w2_L107 o_X_L107 n
          induction n with
          | zero => intro v3_L107 o_N_L107 out_L107 H locs ls hM; exact absurd (show none = some _ from hM) (by simp)
          | succ n ih_L107 =>
            intro v3_L107 o_N_L107 out_L107 H locs ls hM hP hD hS hl kx_L107
            rw [f_Model_nameOf_L107] at hM
            refine lv_iload_n hx hb dX8_nameOf_107 rfl (lv_at hl 0 rfl) ?_
            refine lv_iload_n hx hb dX8_nameOf_108 rfl (lv_at hl 3 rfl) ?_
            refine lv_icmp_ge (tgt := 145) hx hb dX8_nameOf_109 (by decide) (fun c2271 => ?_) (fun c2271 => ?_)
            · replace hM := if_t c2271 hM
              cases hM
              exact kx_L107 _ _ _ hP hD hS (lv_sub hl [1, 2, 3] rfl)
            · replace hM := if_f c2271 hM
              refine lv_aload_n hx hb dX8_nameOf_112 rfl (lv_at hl 1 rfl) ?_
              refine va_get (D := D) (ci := 8) (v := .ref (ad 107)) (C := RX8) (T := TX8) (N := 48) hx hb hts layX8 hown hK hP 0 rfl rfl 15 (by decide) (hts _ (inA q993)) (fun _ h9 => h9) rfl dX8_nameOf_113 ?_
              refine lv_aload_n hx hb dX8_nameOf_116 rfl (lv_at hl 1 rfl) ?_
              refine va_get (D := D) (ci := 8) (v := .ref (ad 106)) (C := RX8) (T := TX8) (N := 48) hx hb hts layX8 hown hK hP 0 rfl rfl 14 (by decide) (hts _ (inA q992)) (fun _ h9 => h9) rfl dX8_nameOf_117 ?_
              refine lv_aload_n hx hb dX8_nameOf_120 rfl (lv_at hl 1 rfl) ?_
              refine va_get (D := D) (ci := 8) (v := .int o_N_L107.1) (C := RX8) (T := TX8) (N := 48) hx hb hts layX8 hown hK hP 0 rfl rfl 13 (by decide) (hts _ (inA q991)) (fun _ h9 => h9) rfl dX8_nameOf_121 ?_
              obtain ⟨b2272, hM⟩ := gd_use hM
              refine va_iald hx hb hK hP 2 0 rfl rfl b2272 dX8_nameOf_124 ?_
              refine lv_iload_n hx hb dX8_nameOf_125 rfl (lv_at hl 0 rfl) ?_
              refine lv_iadd hx hb dX8_nameOf_126 ?_
              refine lv_aload_n hx hb dX8_nameOf_127 rfl (lv_at hl 1 rfl) ?_
              refine va_get (D := D) (ci := 8) (v := .ref (ad 105)) (C := RX8) (T := TX8) (N := 48) hx hb hts layX8 hown hK hP 0 rfl rfl 5 (by decide) (hts _ (inA q983)) (fun _ h9 => h9) rfl dX8_nameOf_128 ?_
              refine lv_iload_n hx hb dX8_nameOf_131 rfl (lv_at hl 2 rfl) ?_
              refine lv_iload_n hx hb dX8_nameOf_132 rfl (lv_at hl 0 rfl) ?_
              refine lv_iadd hx hb dX8_nameOf_133 ?_
              obtain ⟨b2273, hM⟩ := gd_use hM
              refine va_iald hx hb hK hP 1 0 rfl rfl b2273 dX8_nameOf_134 ?_
              obtain ⟨r2274, hcr2274, hM⟩ := ob_use hM
              refine cl_S (As := [.int (o_X_L107.2 (w1_L107 + v3_L107).toNatClampNeg)]) (rest := [.int ((o_N_L107.2.1 o_N_L107.1.toNatClampNeg) + v3_L107), .ref (ad 107)]) (wM0 ad o_X_L107 o_L o_N_L107 o_T o_U o_O o_E o_Q o_V o_I ++ wMX cI ad o_X_L107 ++ wMN cI ad o_N_L107) (.int r2274 :: [.int ((o_N_L107.2.1 o_N_L107.1.toNatClampNeg) + v3_L107), .ref (ad 107)]) ⟨hx, hb, hml, hown, hts⟩ (c_Model_great l D cI sd ad (o_X_L107.2 (w1_L107 + v3_L107).toNatClampNeg) r2274 hcr2274) (cwS2 hts q1178 mvX8_great rfl rfl ⟨(Nat.le_of_ble_eq_true rfl), (Nat.le_of_ble_eq_true rfl)⟩) hK hE hA hP hD hS [] rfl (by decide) rfl rfl rfl rfl rfl rfl hl.1 (Nat.le_of_ble_eq_true rfl) dX8_nameOf_135 ⟨Nat.zero_le _, Nat.zero_le _⟩ (fun H locs hP hD hS => ?_)
              obtain ⟨b2275, hM⟩ := gd_use hM
              refine va_iast hx hb hK hP hD hS 3 0 rfl rfl b2275 dX8_nameOf_138 (fun H locs hP hD hS => ?_)
              have hP : va_P D vwCl (wM0 ad o_X_L107 o_L (o_N_L107.1, o_N_L107.2.1, upd o_N_L107.2.2 ((o_N_L107.2.1 o_N_L107.1.toNatClampNeg) + v3_L107).toNatClampNeg r2274) o_T o_U o_O o_E o_Q o_V o_I ++ wMX cI ad o_X_L107 ++ wMN cI ad (o_N_L107.1, o_N_L107.2.1, upd o_N_L107.2.2 ((o_N_L107.2.1 o_N_L107.1.toNatClampNeg) + v3_L107).toNatClampNeg r2274)) H := hP
              have hD : va_D A (wM0 ad o_X_L107 o_L (o_N_L107.1, o_N_L107.2.1, upd o_N_L107.2.2 ((o_N_L107.2.1 o_N_L107.1.toNatClampNeg) + v3_L107).toNatClampNeg r2274) o_T o_U o_O o_E o_Q o_V o_I ++ wMX cI ad o_X_L107 ++ wMN cI ad (o_N_L107.1, o_N_L107.2.1, upd o_N_L107.2.2 ((o_N_L107.2.1 o_N_L107.1.toNatClampNeg) + v3_L107).toNatClampNeg r2274)) := hD
              obtain ⟨x2276, ex2276⟩ : ∃ y : Int32, y = v3_L107 + 1 := ⟨_, rfl⟩
              replace hM := nm_use ex2276 hM
              refine lv_iinc (v := x2276) (lv' := [(3, .int x2276), (0, .ref (ad 100)), (1, .int w1_L107), (2, .int w2_L107)]) hx hb dX8_nameOf_139 hl (k := 0) rfl (by rw [ex2276]; rfl) (by decide) rfl (fun ls hl => ?_)
              refine lv_goto (tgt := 107) hx hb dX8_nameOf_142 (by decide) ?_
              exact ih_L107 x2276 (o_N_L107.1, o_N_L107.2.1, upd o_N_L107.2.2 ((o_N_L107.2.1 o_N_L107.1.toNatClampNeg) + v3_L107).toNatClampNeg r2274) out_L107 _ _ _ hM hP hD hS (lv_sub hl [0, 1, 2, 3] rfl) kx_L107
        obtain ⟨r1122, hcr1122, hM⟩ := ob_use hM
        refine lp_L107 w1_L2 w2_L2 o_X FU 0 o_N r1122 _ _ _ hcr1122 hP hD hS (lv_sub hl [0, 1, 2, 3] rfl) (fun H locs ls hP hD hS hl => ?_)
        refine lv_aload_n hx hb dX8_nameOf_145 rfl (lv_at hl 0 rfl) ?_
        refine va_get (D := D) (ci := 8) (v := .ref (ad 106)) (C := RX8) (T := TX8) (N := 48) hx hb hts layX8 hown hK hP 0 rfl rfl 14 (by decide) (hts _ (inA q992)) (fun _ h9 => h9) rfl dX8_nameOf_146 ?_
        refine lv_aload_n hx hb dX8_nameOf_149 rfl (lv_at hl 0 rfl) ?_
        refine va_get (D := D) (ci := 8) (v := .int r1122.1) (C := RX8) (T := TX8) (N := 48) hx hb hts layX8 hown hK hP 0 rfl rfl 13 (by decide) (hts _ (inA q991)) (fun _ h9 => h9) rfl dX8_nameOf_150 ?_
        refine lv_iconst (v := 1) hx hb dX8_nameOf_153 (by decide) ?_
        refine lv_iadd hx hb dX8_nameOf_154 ?_
        refine lv_aload_n hx hb dX8_nameOf_155 rfl (lv_at hl 0 rfl) ?_
        refine va_get (D := D) (ci := 8) (v := .ref (ad 106)) (C := RX8) (T := TX8) (N := 48) hx hb hts layX8 hown hK hP 0 rfl rfl 14 (by decide) (hts _ (inA q992)) (fun _ h9 => h9) rfl dX8_nameOf_156 ?_
        refine lv_aload_n hx hb dX8_nameOf_159 rfl (lv_at hl 0 rfl) ?_
        refine va_get (D := D) (ci := 8) (v := .int r1122.1) (C := RX8) (T := TX8) (N := 48) hx hb hts layX8 hown hK hP 0 rfl rfl 13 (by decide) (hts _ (inA q991)) (fun _ h9 => h9) rfl dX8_nameOf_160 ?_
        obtain ⟨b1123, hM⟩ := gd_use hM
        refine va_iald hx hb hK hP 2 0 rfl rfl b1123 dX8_nameOf_163 ?_
        refine lv_iload_n hx hb dX8_nameOf_164 rfl (lv_at hl 2 rfl) ?_
        refine lv_iadd hx hb dX8_nameOf_165 ?_
        refine lv_topi (fun x1125 ex1125 => ?_)
        replace hM := nm_use ex1125 hM
        obtain ⟨b1124, hM⟩ := gd_use hM
        refine va_iast hx hb hK hP hD hS 2 0 rfl rfl b1124 dX8_nameOf_166 (fun H locs hP hD hS => ?_)
        have hP : va_P D vwCl (wM0 ad o_X o_L (r1122.1, upd r1122.2.1 (r1122.1 + 1).toNatClampNeg x1125, r1122.2.2) o_T o_U o_O o_E o_Q o_V o_I ++ wMX cI ad o_X ++ wMN cI ad (r1122.1, upd r1122.2.1 (r1122.1 + 1).toNatClampNeg x1125, r1122.2.2)) H := hP
        have hD : va_D A (wM0 ad o_X o_L (r1122.1, upd r1122.2.1 (r1122.1 + 1).toNatClampNeg x1125, r1122.2.2) o_T o_U o_O o_E o_Q o_V o_I ++ wMX cI ad o_X ++ wMN cI ad (r1122.1, upd r1122.2.1 (r1122.1 + 1).toNatClampNeg x1125, r1122.2.2)) := hD
        refine lv_aload_n hx hb dX8_nameOf_167 rfl (lv_at hl 0 rfl) ?_
        refine lv_dup hx hb dX8_nameOf_168 rfl ?_
        refine va_get (D := D) (ci := 8) (v := .int r1122.1) (C := RX8) (T := TX8) (N := 48) hx hb hts layX8 hown hK hP 0 rfl rfl 13 (by decide) (hts _ (inA q991)) (fun _ h9 => h9) rfl dX8_nameOf_169 ?_
        refine lv_iconst (v := 1) hx hb dX8_nameOf_172 (by decide) ?_
        refine lv_iadd hx hb dX8_nameOf_173 ?_
        refine va_put (D := D) (ci := 8) (v := .int (r1122.1 + 1)) (ty := .int) (C := RX8) (T := TX8) (N := 48) hx hb hts layX8 tyX8 tyX8_ok nmX8 hown hK hP hD hS 0 rfl rfl 13 (by decide) (hts _ (inA q991)) (fun _ h9 => h9) rfl (by decide +kernel) rfl rfl (Nat.le_of_ble_eq_true rfl) dX8_nameOf_174 (fun H locs hP hD hS => ?_)
        have hP : va_P D vwCl (wM0 ad o_X o_L (r1122.1 + 1, upd r1122.2.1 (r1122.1 + 1).toNatClampNeg x1125, r1122.2.2) o_T o_U o_O o_E o_Q o_V o_I ++ wMX cI ad o_X ++ wMN cI ad (r1122.1 + 1, upd r1122.2.1 (r1122.1 + 1).toNatClampNeg x1125, r1122.2.2)) H := hP
        have hD : va_D A (wM0 ad o_X o_L (r1122.1 + 1, upd r1122.2.1 (r1122.1 + 1).toNatClampNeg x1125, r1122.2.2) o_T o_U o_O o_E o_Q o_V o_I ++ wMX cI ad o_X ++ wMN cI ad (r1122.1 + 1, upd r1122.2.1 (r1122.1 + 1).toNatClampNeg x1125, r1122.2.2)) := hD
        refine lv_aload_n hx hb dX8_nameOf_177 rfl (lv_at hl 0 rfl) ?_
        refine va_get (D := D) (ci := 8) (v := .int (r1122.1 + 1)) (C := RX8) (T := TX8) (N := 48) hx hb hts layX8 hown hK hP 0 rfl rfl 13 (by decide) (hts _ (inA q991)) (fun _ h9 => h9) rfl dX8_nameOf_178 ?_
        refine lv_iconst (v := 1) hx hb dX8_nameOf_181 (by decide) ?_
        refine lv_isub hx hb dX8_nameOf_182 ?_
        cases hM
        exact rt_i hx hb hr hlk hP hD hS rfl dX8_nameOf_183
      · replace hM := if_f c1121 hM
        refine lv_aload_n hx hb dX8_nameOf_10 rfl (lv_at hl 1 rfl) ?_
        refine va_get (D := D) (ci := 8) (v := .ref (ad 106)) (C := RX8) (T := TX8) (N := 48) hx hb hts layX8 hown hK hP 0 rfl rfl 14 (by decide) (hts _ (inA q992)) (fun _ h9 => h9) rfl dX8_nameOf_11 ?_
        refine lv_iload_n hx hb dX8_nameOf_14 rfl (lv_at hl 0 rfl) ?_
        refine lv_iconst (v := 1) hx hb dX8_nameOf_15 (by decide) ?_
        refine lv_iadd hx hb dX8_nameOf_16 ?_
        obtain ⟨b1126, hM⟩ := gd_use hM
        refine va_iald hx hb hK hP 2 0 rfl rfl b1126 dX8_nameOf_17 ?_
        refine lv_aload_n hx hb dX8_nameOf_18 rfl (lv_at hl 1 rfl) ?_
        refine va_get (D := D) (ci := 8) (v := .ref (ad 106)) (C := RX8) (T := TX8) (N := 48) hx hb hts layX8 hown hK hP 0 rfl rfl 14 (by decide) (hts _ (inA q992)) (fun _ h9 => h9) rfl dX8_nameOf_19 ?_
        refine lv_iload_n hx hb dX8_nameOf_22 rfl (lv_at hl 0 rfl) ?_
        obtain ⟨b1127, hM⟩ := gd_use hM
        refine va_iald hx hb hK hP 2 0 rfl rfl b1127 dX8_nameOf_23 ?_
        refine lv_isub hx hb dX8_nameOf_24 ?_
        refine lv_iload_n hx hb dX8_nameOf_25 rfl (lv_at hl 3 rfl) ?_
        refine lv_icmp_ne (tgt := 33) hx hb dX8_nameOf_26 (by decide) (fun c1128 => ?_) (fun c1128 => ?_)
        · replace hM := if_f c1128 hM
          refine lv_iconst (v := 0) hx hb dX8_nameOf_33 (by decide) ?_
          refine lv_istore (lv' := [(4, .int 0), (3, .int v3_L2), (0, .ref (ad 100)), (1, .int w1_L2), (2, .int w2_L2)]) hx hb dX8_nameOf_34 hl (by decide) rfl (fun ls hl => ?_)
          refine lv_iconst (v := 0) hx hb dX8_nameOf_36 (by decide) ?_
          refine lv_istore (lv' := [(5, .int 0), (4, .int 0), (3, .int v3_L2), (0, .ref (ad 100)), (1, .int w1_L2), (2, .int w2_L2)]) hx hb dX8_nameOf_37 hl (by decide) rfl (fun ls hl => ?_)
          have lp_L39 : ∀ (w3_L39 : Int32) (w1_L39 : Int32) (w2_L39 : Int32) (o_X_L39 : S_MX) (o_N_L39 : S_MN) (n : Nat) (v5_L39 : Int32) (v4_L39 : Int32) (out_L39 : Int32) (H : Heap) (locs : List Loc) (ls : Array Slot), f_Model_nameOf_L39 w3_L39 w1_L39 w2_L39 o_X_L39 o_N_L39 n v5_L39 v4_L39 = some out_L39 → va_P D vwCl (wM0 ad o_X_L39 o_L o_N_L39 o_T o_U o_O o_E o_Q o_V o_I ++ wMX cI ad o_X_L39 ++ wMN cI ad o_N_L39) H → va_D A (wM0 ad o_X_L39 o_L o_N_L39 o_T o_U o_O o_E o_Q o_V o_I ++ wMX cI ad o_X_L39 ++ wMN cI ad o_N_L39) → va_S A s.heap H locs → lv_has ls 6 [(5, .int v5_L39), (4, .int v4_L39), (3, .int w3_L39), (0, .ref (ad 100)), (1, .int w1_L39), (2, .int w2_L39)] → (∀ (H : Heap) (locs : List Loc) (ls : Array Slot), va_P D vwCl (wM0 ad o_X_L39 o_L o_N_L39 o_T o_U o_O o_E o_Q o_V o_I ++ wMX cI ad o_X_L39 ++ wMN cI ad o_N_L39) H → va_D A (wM0 ad o_X_L39 o_L o_N_L39 o_T o_U o_O o_E o_Q o_V o_I ++ wMX cI ad o_X_L39 ++ wMN cI ad o_N_L39) → va_S A s.heap H locs → lv_has ls 6 [(4, .int out_L39), (3, .int w3_L39), (0, .ref (ad 100)), (1, .int w1_L39), (2, .int w2_L39)] → W p l e { frames := 1, cells := 0, slots := 0, locals := 20 } s m [.ref (ad 100), .int a1, .int a2].toArray below meth c H locs 0 0 (MQ below (CQ D A (wM0 ad o_X o_L res.2 o_T o_U o_O o_E o_Q o_V o_I ++ wMX cI ad o_X ++ wMN cI ad res.2) (some (.int res.1))) [.ref (ad 100), .int a1, .int a2].toArray s 0 0 A) (F0 m 92 ls [])) → W p l e { frames := 1, cells := 0, slots := 0, locals := 20 } s m [.ref (ad 100), .int a1, .int a2].toArray below meth c H locs 0 0 (MQ below (CQ D A (wM0 ad o_X o_L res.2 o_T o_U o_O o_E o_Q o_V o_I ++ wMX cI ad o_X ++ wMN cI ad res.2) (some (.int res.1))) [.ref (ad 100), .int a1, .int a2].toArray s 0 0 A) (F0 m 39 ls []) := by
            intro w3_L39 w1_L39 w2_L39 o_X_L39 o_N_L39 n
            induction n with
            | zero => intro v5_L39 v4_L39 out_L39 H locs ls hM; exact absurd (show none = some _ from hM) (by simp)
            | succ n ih_L39 =>
              intro v5_L39 v4_L39 out_L39 H locs ls hM hP hD hS hl kx_L39
              rw [f_Model_nameOf_L39] at hM
              refine lv_iload hx hb dX8_nameOf_39 (lv_at hl 0 rfl) ?_
              refine lv_iload_n hx hb dX8_nameOf_41 rfl (lv_at hl 5 rfl) ?_
              refine lv_icmp_ge (tgt := 92) hx hb dX8_nameOf_42 (by decide) (fun c1591 => ?_) (fun c1591 => ?_)
              · replace hM := if_t c1591 hM
                cases hM
                exact kx_L39 _ _ _ hP hD hS (lv_sub hl [1, 2, 3, 4, 5] rfl)
              · replace hM := if_f c1591 hM
                refine lv_iload hx hb dX8_nameOf_45 (lv_at hl 1 rfl) ?_
                refine lv_if_eq (tgt := 92) hx hb dX8_nameOf_47 (by decide) (fun c1592 => ?_) (fun c1592 => ?_)
                · replace hM := if_t c1592 hM
                  cases hM
                  exact kx_L39 _ _ _ hP hD hS (lv_sub hl [1, 2, 3, 4, 5] rfl)
                · replace hM := if_f c1592 hM
                  refine lv_aload_n hx hb dX8_nameOf_50 rfl (lv_at hl 3 rfl) ?_
                  refine va_get (D := D) (ci := 8) (v := .ref (ad 107)) (C := RX8) (T := TX8) (N := 48) hx hb hts layX8 hown hK hP 0 rfl rfl 15 (by decide) (hts _ (inA q993)) (fun _ h9 => h9) rfl dX8_nameOf_51 ?_
                  refine lv_aload_n hx hb dX8_nameOf_54 rfl (lv_at hl 3 rfl) ?_
                  refine va_get (D := D) (ci := 8) (v := .ref (ad 106)) (C := RX8) (T := TX8) (N := 48) hx hb hts layX8 hown hK hP 0 rfl rfl 14 (by decide) (hts _ (inA q992)) (fun _ h9 => h9) rfl dX8_nameOf_55 ?_
                  refine lv_iload_n hx hb dX8_nameOf_58 rfl (lv_at hl 2 rfl) ?_
                  obtain ⟨b1593, hM⟩ := gd_use hM
                  refine va_iald hx hb hK hP 2 0 rfl rfl b1593 dX8_nameOf_59 ?_
                  refine lv_iload hx hb dX8_nameOf_60 (lv_at hl 0 rfl) ?_
                  refine lv_iadd hx hb dX8_nameOf_62 ?_
                  obtain ⟨b1594, hM⟩ := gd_use hM
                  refine va_iald hx hb hK hP 3 0 rfl rfl b1594 dX8_nameOf_63 ?_
                  refine lv_aload_n hx hb dX8_nameOf_64 rfl (lv_at hl 3 rfl) ?_
                  refine va_get (D := D) (ci := 8) (v := .ref (ad 105)) (C := RX8) (T := TX8) (N := 48) hx hb hts layX8 hown hK hP 0 rfl rfl 5 (by decide) (hts _ (inA q983)) (fun _ h9 => h9) rfl dX8_nameOf_65 ?_
                  refine lv_iload_n hx hb dX8_nameOf_68 rfl (lv_at hl 4 rfl) ?_
                  refine lv_iload hx hb dX8_nameOf_69 (lv_at hl 0 rfl) ?_
                  refine lv_iadd hx hb dX8_nameOf_71 ?_
                  obtain ⟨b1595, hM⟩ := gd_use hM
                  refine va_iald hx hb hK hP 1 0 rfl rfl b1595 dX8_nameOf_72 ?_
                  obtain ⟨r1596, hcr1596, hM⟩ := ob_use hM
                  refine cl_S (As := [.int (o_X_L39.2 (w1_L39 + v5_L39).toNatClampNeg)]) (rest := [.int (o_N_L39.2.2 ((o_N_L39.2.1 w3_L39.toNatClampNeg) + v5_L39).toNatClampNeg)]) (wM0 ad o_X_L39 o_L o_N_L39 o_T o_U o_O o_E o_Q o_V o_I ++ wMX cI ad o_X_L39 ++ wMN cI ad o_N_L39) (.int r1596 :: [.int (o_N_L39.2.2 ((o_N_L39.2.1 w3_L39.toNatClampNeg) + v5_L39).toNatClampNeg)]) ⟨hx, hb, hml, hown, hts⟩ (c_Model_great l D cI sd ad (o_X_L39.2 (w1_L39 + v5_L39).toNatClampNeg) r1596 hcr1596) (cwS2 hts q1178 mvX8_great rfl rfl ⟨(Nat.le_of_ble_eq_true rfl), (Nat.le_of_ble_eq_true rfl)⟩) hK hE hA hP hD hS [] rfl (by decide) rfl rfl rfl rfl rfl rfl hl.1 (Nat.le_of_ble_eq_true rfl) dX8_nameOf_73 ⟨Nat.zero_le _, Nat.zero_le _⟩ (fun H locs hP hD hS => ?_)
                  refine lv_icmp_ne (tgt := 83) hx hb dX8_nameOf_76 (by decide) (fun c1597 => ?_) (fun c1597 => ?_)
                  · replace hM := if_f c1597 hM
                    refine lv_iconst (v := 0) hx hb dX8_nameOf_83 (by decide) ?_
                    refine lv_istore (lv' := [(4, .int 0), (5, .int v5_L39), (3, .int w3_L39), (0, .ref (ad 100)), (1, .int w1_L39), (2, .int w2_L39)]) hx hb dX8_nameOf_84 hl (by decide) rfl (fun ls hl => ?_)
                    obtain ⟨x1598, ex1598⟩ : ∃ y : Int32, y = v5_L39 + 1 := ⟨_, rfl⟩
                    replace hM := nm_use ex1598 hM
                    refine lv_iinc (v := x1598) (lv' := [(5, .int x1598), (4, .int 0), (3, .int w3_L39), (0, .ref (ad 100)), (1, .int w1_L39), (2, .int w2_L39)]) hx hb dX8_nameOf_86 hl (k := 1) rfl (by rw [ex1598]; rfl) (by decide) rfl (fun ls hl => ?_)
                    refine lv_goto (tgt := 39) hx hb dX8_nameOf_89 (by decide) ?_
                    exact ih_L39 x1598 0 out_L39 _ _ _ hM hP hD hS (lv_sub hl [0, 1, 2, 3, 4, 5] rfl) kx_L39
                  · replace hM := if_t c1597 hM
                    refine lv_iconst (v := 1) hx hb dX8_nameOf_79 (by decide) ?_
                    refine lv_goto (tgt := 84) hx hb dX8_nameOf_80 (by decide) ?_
                    refine lv_istore (lv' := [(4, .int 1), (5, .int v5_L39), (3, .int w3_L39), (0, .ref (ad 100)), (1, .int w1_L39), (2, .int w2_L39)]) hx hb dX8_nameOf_84 hl (by decide) rfl (fun ls hl => ?_)
                    obtain ⟨x1599, ex1599⟩ : ∃ y : Int32, y = v5_L39 + 1 := ⟨_, rfl⟩
                    replace hM := nm_use ex1599 hM
                    refine lv_iinc (v := x1599) (lv' := [(5, .int x1599), (4, .int 1), (3, .int w3_L39), (0, .ref (ad 100)), (1, .int w1_L39), (2, .int w2_L39)]) hx hb dX8_nameOf_86 hl (k := 1) rfl (by rw [ex1599]; rfl) (by decide) rfl (fun ls hl => ?_)
                    refine lv_goto (tgt := 39) hx hb dX8_nameOf_89 (by decide) ?_
                    exact ih_L39 x1599 1 out_L39 _ _ _ hM hP hD hS (lv_sub hl [0, 1, 2, 3, 4, 5] rfl) kx_L39
          obtain ⟨r1129, hcr1129, hM⟩ := ob_use hM
          refine lp_L39 v3_L2 w1_L2 w2_L2 o_X o_N FU 0 0 r1129 _ _ _ hcr1129 hP hD hS (lv_sub hl [0, 1, 2, 3, 4, 5] rfl) (fun H locs ls hP hD hS hl => ?_)
          refine lv_iload hx hb dX8_nameOf_92 (lv_at hl 0 rfl) ?_
          refine lv_if_eq (tgt := 99) hx hb dX8_nameOf_94 (by decide) (fun c1130 => ?_) (fun c1130 => ?_)
          · replace hM := if_t c1130 hM
            obtain ⟨x1131, ex1131⟩ : ∃ y : Int32, y = v3_L2 + 1 := ⟨_, rfl⟩
            replace hM := nm_use ex1131 hM
            refine lv_iinc (v := x1131) (lv' := [(3, .int x1131), (4, .int r1129), (0, .ref (ad 100)), (1, .int w1_L2), (2, .int w2_L2)]) hx hb dX8_nameOf_99 hl (k := 1) rfl (by rw [ex1131]; rfl) (by decide) rfl (fun ls hl => ?_)
            refine lv_goto (tgt := 2) hx hb dX8_nameOf_102 (by decide) ?_
            exact ih_L2 x1131 _ _ _ hM hP hD hS (lv_sub hl [0, 2, 3, 4] rfl)
          · replace hM := if_f c1130 hM
            refine lv_iload_n hx hb dX8_nameOf_97 rfl (lv_at hl 1 rfl) ?_
            cases hM
            exact rt_i hx hb hr hlk hP hD hS rfl dX8_nameOf_98
        · replace hM := if_t c1128 hM
          refine lv_iconst (v := 1) hx hb dX8_nameOf_29 (by decide) ?_
          refine lv_goto (tgt := 34) hx hb dX8_nameOf_30 (by decide) ?_
          refine lv_istore (lv' := [(4, .int 1), (3, .int v3_L2), (0, .ref (ad 100)), (1, .int w1_L2), (2, .int w2_L2)]) hx hb dX8_nameOf_34 hl (by decide) rfl (fun ls hl => ?_)
          refine lv_iconst (v := 0) hx hb dX8_nameOf_36 (by decide) ?_
          refine lv_istore (lv' := [(5, .int 0), (4, .int 1), (3, .int v3_L2), (0, .ref (ad 100)), (1, .int w1_L2), (2, .int w2_L2)]) hx hb dX8_nameOf_37 hl (by decide) rfl (fun ls hl => ?_)
          have lp_L39 : ∀ (w3_L39 : Int32) (w1_L39 : Int32) (w2_L39 : Int32) (o_X_L39 : S_MX) (o_N_L39 : S_MN) (n : Nat) (v5_L39 : Int32) (v4_L39 : Int32) (out_L39 : Int32) (H : Heap) (locs : List Loc) (ls : Array Slot), f_Model_nameOf_L39 w3_L39 w1_L39 w2_L39 o_X_L39 o_N_L39 n v5_L39 v4_L39 = some out_L39 → va_P D vwCl (wM0 ad o_X_L39 o_L o_N_L39 o_T o_U o_O o_E o_Q o_V o_I ++ wMX cI ad o_X_L39 ++ wMN cI ad o_N_L39) H → va_D A (wM0 ad o_X_L39 o_L o_N_L39 o_T o_U o_O o_E o_Q o_V o_I ++ wMX cI ad o_X_L39 ++ wMN cI ad o_N_L39) → va_S A s.heap H locs → lv_has ls 6 [(5, .int v5_L39), (4, .int v4_L39), (3, .int w3_L39), (0, .ref (ad 100)), (1, .int w1_L39), (2, .int w2_L39)] → (∀ (H : Heap) (locs : List Loc) (ls : Array Slot), va_P D vwCl (wM0 ad o_X_L39 o_L o_N_L39 o_T o_U o_O o_E o_Q o_V o_I ++ wMX cI ad o_X_L39 ++ wMN cI ad o_N_L39) H → va_D A (wM0 ad o_X_L39 o_L o_N_L39 o_T o_U o_O o_E o_Q o_V o_I ++ wMX cI ad o_X_L39 ++ wMN cI ad o_N_L39) → va_S A s.heap H locs → lv_has ls 6 [(4, .int out_L39), (3, .int w3_L39), (0, .ref (ad 100)), (1, .int w1_L39), (2, .int w2_L39)] → W p l e { frames := 1, cells := 0, slots := 0, locals := 20 } s m [.ref (ad 100), .int a1, .int a2].toArray below meth c H locs 0 0 (MQ below (CQ D A (wM0 ad o_X o_L res.2 o_T o_U o_O o_E o_Q o_V o_I ++ wMX cI ad o_X ++ wMN cI ad res.2) (some (.int res.1))) [.ref (ad 100), .int a1, .int a2].toArray s 0 0 A) (F0 m 92 ls [])) → W p l e { frames := 1, cells := 0, slots := 0, locals := 20 } s m [.ref (ad 100), .int a1, .int a2].toArray below meth c H locs 0 0 (MQ below (CQ D A (wM0 ad o_X o_L res.2 o_T o_U o_O o_E o_Q o_V o_I ++ wMX cI ad o_X ++ wMN cI ad res.2) (some (.int res.1))) [.ref (ad 100), .int a1, .int a2].toArray s 0 0 A) (F0 m 39 ls []) := by
            intro w3_L39 w1_L39 w2_L39 o_X_L39 o_N_L39 n
            induction n with
            | zero => intro v5_L39 v4_L39 out_L39 H locs ls hM; exact absurd (show none = some _ from hM) (by simp)
            | succ n ih_L39 =>
              intro v5_L39 v4_L39 out_L39 H locs ls hM hP hD hS hl kx_L39
              rw [f_Model_nameOf_L39] at hM
              refine lv_iload hx hb dX8_nameOf_39 (lv_at hl 0 rfl) ?_
              refine lv_iload_n hx hb dX8_nameOf_41 rfl (lv_at hl 5 rfl) ?_
              refine lv_icmp_ge (tgt := 92) hx hb dX8_nameOf_42 (by decide) (fun c1591 => ?_) (fun c1591 => ?_)
              · replace hM := if_t c1591 hM
                cases hM
                exact kx_L39 _ _ _ hP hD hS (lv_sub hl [1, 2, 3, 4, 5] rfl)
              · replace hM := if_f c1591 hM
                refine lv_iload hx hb dX8_nameOf_45 (lv_at hl 1 rfl) ?_
                refine lv_if_eq (tgt := 92) hx hb dX8_nameOf_47 (by decide) (fun c1592 => ?_) (fun c1592 => ?_)
                · replace hM := if_t c1592 hM
                  cases hM
                  exact kx_L39 _ _ _ hP hD hS (lv_sub hl [1, 2, 3, 4, 5] rfl)
                · replace hM := if_f c1592 hM
                  refine lv_aload_n hx hb dX8_nameOf_50 rfl (lv_at hl 3 rfl) ?_
                  refine va_get (D := D) (ci := 8) (v := .ref (ad 107)) (C := RX8) (T := TX8) (N := 48) hx hb hts layX8 hown hK hP 0 rfl rfl 15 (by decide) (hts _ (inA q993)) (fun _ h9 => h9) rfl dX8_nameOf_51 ?_
                  refine lv_aload_n hx hb dX8_nameOf_54 rfl (lv_at hl 3 rfl) ?_
                  refine va_get (D := D) (ci := 8) (v := .ref (ad 106)) (C := RX8) (T := TX8) (N := 48) hx hb hts layX8 hown hK hP 0 rfl rfl 14 (by decide) (hts _ (inA q992)) (fun _ h9 => h9) rfl dX8_nameOf_55 ?_
                  refine lv_iload_n hx hb dX8_nameOf_58 rfl (lv_at hl 2 rfl) ?_
                  obtain ⟨b1593, hM⟩ := gd_use hM
                  refine va_iald hx hb hK hP 2 0 rfl rfl b1593 dX8_nameOf_59 ?_
                  refine lv_iload hx hb dX8_nameOf_60 (lv_at hl 0 rfl) ?_
                  refine lv_iadd hx hb dX8_nameOf_62 ?_
                  obtain ⟨b1594, hM⟩ := gd_use hM
                  refine va_iald hx hb hK hP 3 0 rfl rfl b1594 dX8_nameOf_63 ?_
                  refine lv_aload_n hx hb dX8_nameOf_64 rfl (lv_at hl 3 rfl) ?_
                  refine va_get (D := D) (ci := 8) (v := .ref (ad 105)) (C := RX8) (T := TX8) (N := 48) hx hb hts layX8 hown hK hP 0 rfl rfl 5 (by decide) (hts _ (inA q983)) (fun _ h9 => h9) rfl dX8_nameOf_65 ?_
                  refine lv_iload_n hx hb dX8_nameOf_68 rfl (lv_at hl 4 rfl) ?_
                  refine lv_iload hx hb dX8_nameOf_69 (lv_at hl 0 rfl) ?_
                  refine lv_iadd hx hb dX8_nameOf_71 ?_
                  obtain ⟨b1595, hM⟩ := gd_use hM
                  refine va_iald hx hb hK hP 1 0 rfl rfl b1595 dX8_nameOf_72 ?_
                  obtain ⟨r1596, hcr1596, hM⟩ := ob_use hM
                  refine cl_S (As := [.int (o_X_L39.2 (w1_L39 + v5_L39).toNatClampNeg)]) (rest := [.int (o_N_L39.2.2 ((o_N_L39.2.1 w3_L39.toNatClampNeg) + v5_L39).toNatClampNeg)]) (wM0 ad o_X_L39 o_L o_N_L39 o_T o_U o_O o_E o_Q o_V o_I ++ wMX cI ad o_X_L39 ++ wMN cI ad o_N_L39) (.int r1596 :: [.int (o_N_L39.2.2 ((o_N_L39.2.1 w3_L39.toNatClampNeg) + v5_L39).toNatClampNeg)]) ⟨hx, hb, hml, hown, hts⟩ (c_Model_great l D cI sd ad (o_X_L39.2 (w1_L39 + v5_L39).toNatClampNeg) r1596 hcr1596) (cwS2 hts q1178 mvX8_great rfl rfl ⟨(Nat.le_of_ble_eq_true rfl), (Nat.le_of_ble_eq_true rfl)⟩) hK hE hA hP hD hS [] rfl (by decide) rfl rfl rfl rfl rfl rfl hl.1 (Nat.le_of_ble_eq_true rfl) dX8_nameOf_73 ⟨Nat.zero_le _, Nat.zero_le _⟩ (fun H locs hP hD hS => ?_)
                  refine lv_icmp_ne (tgt := 83) hx hb dX8_nameOf_76 (by decide) (fun c1597 => ?_) (fun c1597 => ?_)
                  · replace hM := if_f c1597 hM
                    refine lv_iconst (v := 0) hx hb dX8_nameOf_83 (by decide) ?_
                    refine lv_istore (lv' := [(4, .int 0), (5, .int v5_L39), (3, .int w3_L39), (0, .ref (ad 100)), (1, .int w1_L39), (2, .int w2_L39)]) hx hb dX8_nameOf_84 hl (by decide) rfl (fun ls hl => ?_)
                    obtain ⟨x1598, ex1598⟩ : ∃ y : Int32, y = v5_L39 + 1 := ⟨_, rfl⟩
                    replace hM := nm_use ex1598 hM
                    refine lv_iinc (v := x1598) (lv' := [(5, .int x1598), (4, .int 0), (3, .int w3_L39), (0, .ref (ad 100)), (1, .int w1_L39), (2, .int w2_L39)]) hx hb dX8_nameOf_86 hl (k := 1) rfl (by rw [ex1598]; rfl) (by decide) rfl (fun ls hl => ?_)
                    refine lv_goto (tgt := 39) hx hb dX8_nameOf_89 (by decide) ?_
                    exact ih_L39 x1598 0 out_L39 _ _ _ hM hP hD hS (lv_sub hl [0, 1, 2, 3, 4, 5] rfl) kx_L39
                  · replace hM := if_t c1597 hM
                    refine lv_iconst (v := 1) hx hb dX8_nameOf_79 (by decide) ?_
                    refine lv_goto (tgt := 84) hx hb dX8_nameOf_80 (by decide) ?_
                    refine lv_istore (lv' := [(4, .int 1), (5, .int v5_L39), (3, .int w3_L39), (0, .ref (ad 100)), (1, .int w1_L39), (2, .int w2_L39)]) hx hb dX8_nameOf_84 hl (by decide) rfl (fun ls hl => ?_)
                    obtain ⟨x1599, ex1599⟩ : ∃ y : Int32, y = v5_L39 + 1 := ⟨_, rfl⟩
                    replace hM := nm_use ex1599 hM
                    refine lv_iinc (v := x1599) (lv' := [(5, .int x1599), (4, .int 1), (3, .int w3_L39), (0, .ref (ad 100)), (1, .int w1_L39), (2, .int w2_L39)]) hx hb dX8_nameOf_86 hl (k := 1) rfl (by rw [ex1599]; rfl) (by decide) rfl (fun ls hl => ?_)
                    refine lv_goto (tgt := 39) hx hb dX8_nameOf_89 (by decide) ?_
                    exact ih_L39 x1599 1 out_L39 _ _ _ hM hP hD hS (lv_sub hl [0, 1, 2, 3, 4, 5] rfl) kx_L39
          obtain ⟨r1132, hcr1132, hM⟩ := ob_use hM
          refine lp_L39 v3_L2 w1_L2 w2_L2 o_X o_N FU 0 1 r1132 _ _ _ hcr1132 hP hD hS (lv_sub hl [0, 1, 2, 3, 4, 5] rfl) (fun H locs ls hP hD hS hl => ?_)
          refine lv_iload hx hb dX8_nameOf_92 (lv_at hl 0 rfl) ?_
          refine lv_if_eq (tgt := 99) hx hb dX8_nameOf_94 (by decide) (fun c1133 => ?_) (fun c1133 => ?_)
          · replace hM := if_t c1133 hM
            obtain ⟨x1134, ex1134⟩ : ∃ y : Int32, y = v3_L2 + 1 := ⟨_, rfl⟩
            replace hM := nm_use ex1134 hM
            refine lv_iinc (v := x1134) (lv' := [(3, .int x1134), (4, .int r1132), (0, .ref (ad 100)), (1, .int w1_L2), (2, .int w2_L2)]) hx hb dX8_nameOf_99 hl (k := 1) rfl (by rw [ex1134]; rfl) (by decide) rfl (fun ls hl => ?_)
            refine lv_goto (tgt := 2) hx hb dX8_nameOf_102 (by decide) ?_
            exact ih_L2 x1134 _ _ _ hM hP hD hS (lv_sub hl [0, 2, 3, 4] rfl)
          · replace hM := if_f c1133 hM
            refine lv_iload_n hx hb dX8_nameOf_97 rfl (lv_at hl 1 rfl) ?_
            cases hM
            exact rt_i hx hb hr hlk hP hD hS rfl dX8_nameOf_98
  exact lp_L2 a1 a2 FU 0 _ _ _ hM hP hD hS (lv_sub hl [0, 1, 2, 3] rfl)

set_option maxHeartbeats 4000000 in
set_option maxRecDepth 100000 in
theorem c_Model_readName (l : Launch) (D : va_G) (cI : ClassId) (sd : Nat → Nat) (ad : Nat → Nat) (o_T : S_MT) (o_U : S_MU) (o_O : S_MO) (o_E : S_ME) (o_Q : S_MQ) (o_V : S_MV) (o_I : S_MI) (o_C : S_MC) (o_X : S_MX) (o_L : S_ML) (o_N : S_MN) (res : S_ML × S_MN) (hM : f_Model_readName o_C o_X o_L o_N = some res) : Ctr l D cI sd yX8_readName (wsM yX8_readName cX8_readName 3 (Option.none : Option Jvm.ClassFile.FieldType)) { frames := 2, cells := 0, slots := 0, locals := 45 } [.ref (ad 100)] (wM0 ad o_X o_L o_N o_T o_U o_O o_E o_Q o_V o_I ++ wMC cI ad o_C ++ wMX cI ad o_X ++ wMN cI ad o_N) (wM0 ad o_X res.1 res.2 o_T o_U o_O o_E o_Q o_V o_I ++ wMC cI ad o_C ++ wMX cI ad o_X ++ wMN cI ad res.2) none := by
  refine Ctr.of (cc := cX8_readName) (maxL := 3) (own := RX8) (by decide +kernel) rfl rfl (Nat.le_of_ble_eq_true rfl) ?_
  intro p e s m below meth c A ls hx hb hr hml hown hts hlk hK hE hA hP hD hS hl
  have hl : lv_has ls 3 [(0, .ref (ad 100))] := hl
  unfold f_Model_readName at hM
  have lp_L0 : ∀ (o_C_L0 : S_MC) (o_X_L0 : S_MX) (o_N_L0 : S_MN) (n : Nat) (o_L_L0 : S_ML) (out_L0 : S_ML) (H : Heap) (locs : List Loc) (ls : Array Slot), f_Model_readName_L0 o_X_L0 n o_L_L0 = some out_L0 → va_P D vwCl (wM0 ad o_X_L0 o_L_L0 o_N_L0 o_T o_U o_O o_E o_Q o_V o_I ++ wMC cI ad o_C_L0 ++ wMX cI ad o_X_L0 ++ wMN cI ad o_N_L0) H → va_D A (wM0 ad o_X_L0 o_L_L0 o_N_L0 o_T o_U o_O o_E o_Q o_V o_I ++ wMC cI ad o_C_L0 ++ wMX cI ad o_X_L0 ++ wMN cI ad o_N_L0) → va_S A s.heap H locs → lv_has ls 3 [(0, .ref (ad 100))] → (∀ (H : Heap) (locs : List Loc) (ls : Array Slot), va_P D vwCl (wM0 ad o_X_L0 out_L0 o_N_L0 o_T o_U o_O o_E o_Q o_V o_I ++ wMC cI ad o_C_L0 ++ wMX cI ad o_X_L0 ++ wMN cI ad o_N_L0) H → va_D A (wM0 ad o_X_L0 out_L0 o_N_L0 o_T o_U o_O o_E o_Q o_V o_I ++ wMC cI ad o_C_L0 ++ wMX cI ad o_X_L0 ++ wMN cI ad o_N_L0) → va_S A s.heap H locs → lv_has ls 3 [(0, .ref (ad 100))] → W p l e { frames := 2, cells := 0, slots := 0, locals := 45 } s m [.ref (ad 100)].toArray below meth c H locs 0 0 (MQ below (CQ D A (wM0 ad o_X res.1 res.2 o_T o_U o_O o_E o_Q o_V o_I ++ wMC cI ad o_C ++ wMX cI ad o_X ++ wMN cI ad res.2) none) [.ref (ad 100)].toArray s 0 0 A) (F0 m 24 ls [])) → W p l e { frames := 2, cells := 0, slots := 0, locals := 45 } s m [.ref (ad 100)].toArray below meth c H locs 0 0 (MQ below (CQ D A (wM0 ad o_X res.1 res.2 o_T o_U o_O o_E o_Q o_V o_I ++ wMC cI ad o_C ++ wMX cI ad o_X ++ wMN cI ad res.2) none) [.ref (ad 100)].toArray s 0 0 A) (F0 m 0 ls []) := by
    intro o_C_L0 o_X_L0 o_N_L0 n
    induction n with
    | zero => intro o_L_L0 out_L0 H locs ls hM; exact absurd (show none = some _ from hM) (by simp)
    | succ n ih_L0 =>
      intro o_L_L0 out_L0 H locs ls hM hP hD hS hl kx_L0
      rw [f_Model_readName_L0] at hM
      refine lv_aload_n hx hb dX8_readName_0 rfl (lv_at hl 0 rfl) ?_
      refine lv_aload_n hx hb dX8_readName_1 rfl (lv_at hl 0 rfl) ?_
      refine va_get (D := D) (ci := 8) (v := .int o_L_L0.2.2.2.1) (C := RX8) (T := TX8) (N := 48) hx hb hts layX8 hown hK hP 0 rfl rfl 9 (by decide) (hts _ (inA q987)) (fun _ h9 => h9) rfl dX8_readName_2 ?_
      obtain ⟨r1101, hcr1101, hM⟩ := ob_use hM
      refine cl_V (As := [.int o_L_L0.2.2.2.1]) (rest := []) (wM0 ad o_X_L0 o_L_L0 o_N_L0 o_T o_U o_O o_E o_Q o_V o_I ++ wMC cI ad o_C_L0 ++ wMX cI ad o_X_L0 ++ wMN cI ad o_N_L0) (.int r1101 :: []) ⟨hx, hb, hml, hown, hts⟩ (c_Model_goesOn l D cI sd ad o_C_L0 o_L_L0 o_N_L0 o_T o_U o_O o_E o_Q o_V o_I o_X_L0 o_L_L0.2.2.2.1 r1101 hcr1101) (cwV2 hts q1195 mvX8_goesOn rfl rfl ⟨(Nat.le_of_ble_eq_true rfl), (Nat.le_of_ble_eq_true rfl)⟩) hK hE hA hP hD hS 0 (T := TX8) (N := 48) (ci := 8) rfl rfl [0, 5] rfl (by decide) rfl rfl rfl rfl rfl rfl hl.1 (Nat.le_of_ble_eq_true rfl) dX8_readName_5 ⟨Nat.zero_le _, Nat.zero_le _⟩ (fun H locs hP hD hS => ?_)
      refine lv_if_eq (tgt := 24) hx hb dX8_readName_8 (by decide) (fun c1102 => ?_) (fun c1102 => ?_)
      · replace hM := if_t c1102 hM
        cases hM
        exact kx_L0 _ _ _ hP hD hS (lv_sub hl [0] rfl)
      · replace hM := if_f c1102 hM
        refine lv_aload_n hx hb dX8_readName_11 rfl (lv_at hl 0 rfl) ?_
        refine lv_dup hx hb dX8_readName_12 rfl ?_
        refine va_get (D := D) (ci := 8) (v := .int o_L_L0.2.2.2.1) (C := RX8) (T := TX8) (N := 48) hx hb hts layX8 hown hK hP 0 rfl rfl 9 (by decide) (hts _ (inA q987)) (fun _ h9 => h9) rfl dX8_readName_13 ?_
        refine lv_iconst (v := 1) hx hb dX8_readName_16 (by decide) ?_
        refine lv_iadd hx hb dX8_readName_17 ?_
        refine va_put (D := D) (ci := 8) (v := .int (o_L_L0.2.2.2.1 + 1)) (ty := .int) (C := RX8) (T := TX8) (N := 48) hx hb hts layX8 tyX8 tyX8_ok nmX8 hown hK hP hD hS 0 rfl rfl 9 (by decide) (hts _ (inA q987)) (fun _ h9 => h9) rfl (by decide +kernel) rfl rfl (Nat.le_of_ble_eq_true rfl) dX8_readName_18 (fun H locs hP hD hS => ?_)
        have hP : va_P D vwCl (wM0 ad o_X_L0 (o_L_L0.1, o_L_L0.2.1, o_L_L0.2.2.1, o_L_L0.2.2.2.1 + 1, o_L_L0.2.2.2.2) o_N_L0 o_T o_U o_O o_E o_Q o_V o_I ++ wMC cI ad o_C_L0 ++ wMX cI ad o_X_L0 ++ wMN cI ad o_N_L0) H := hP
        have hD : va_D A (wM0 ad o_X_L0 (o_L_L0.1, o_L_L0.2.1, o_L_L0.2.2.1, o_L_L0.2.2.2.1 + 1, o_L_L0.2.2.2.2) o_N_L0 o_T o_U o_O o_E o_Q o_V o_I ++ wMC cI ad o_C_L0 ++ wMX cI ad o_X_L0 ++ wMN cI ad o_N_L0) := hD
        refine lv_goto (tgt := 0) hx hb dX8_readName_21 (by decide) ?_
        exact ih_L0 (o_L_L0.1, o_L_L0.2.1, o_L_L0.2.2.1, o_L_L0.2.2.2.1 + 1, o_L_L0.2.2.2.2) out_L0 _ _ _ hM hP hD hS (lv_sub hl [0] rfl) kx_L0
  obtain ⟨r1, hcr1, hM⟩ := ob_use hM
  refine lp_L0 o_C o_X o_N FU o_L r1 _ _ _ hcr1 hP hD hS (lv_sub hl [0] rfl) (fun H locs ls hP hD hS hl => ?_)
  refine lv_aload_n hx hb dX8_readName_24 rfl (lv_at hl 0 rfl) ?_
  refine va_get (D := D) (ci := 8) (v := .int r1.2.2.2.1) (C := RX8) (T := TX8) (N := 48) hx hb hts layX8 hown hK hP 0 rfl rfl 9 (by decide) (hts _ (inA q987)) (fun _ h9 => h9) rfl dX8_readName_25 ?_
  refine lv_aload_n hx hb dX8_readName_28 rfl (lv_at hl 0 rfl) ?_
  refine va_get (D := D) (ci := 8) (v := .int r1.1) (C := RX8) (T := TX8) (N := 48) hx hb hts layX8 hown hK hP 0 rfl rfl 6 (by decide) (hts _ (inA q984)) (fun _ h9 => h9) rfl dX8_readName_29 ?_
  refine lv_isub hx hb dX8_readName_32 ?_
  refine lv_istore_n (lv' := [(1, .int (r1.2.2.2.1 - r1.1)), (0, .ref (ad 100))]) hx hb dX8_readName_33 rfl hl (by decide) rfl (fun ls hl => ?_)
  refine lv_iload_n hx hb dX8_readName_34 rfl (lv_at hl 0 rfl) ?_
  refine lv_bipush (v := 32) hx hb dX8_readName_35 (by decide) ?_
  refine lv_icmp_le (tgt := 50) hx hb dX8_readName_37 (by decide) (fun c2 => ?_) (fun c2 => ?_)
  · replace hM := if_t c2 hM
    refine lv_aload_n hx hb dX8_readName_50 rfl (lv_at hl 1 rfl) ?_
    refine lv_aload_n hx hb dX8_readName_51 rfl (lv_at hl 1 rfl) ?_
    refine va_get (D := D) (ci := 8) (v := .int r1.1) (C := RX8) (T := TX8) (N := 48) hx hb hts layX8 hown hK hP 0 rfl rfl 6 (by decide) (hts _ (inA q984)) (fun _ h9 => h9) rfl dX8_readName_52 ?_
    refine lv_iload_n hx hb dX8_readName_55 rfl (lv_at hl 0 rfl) ?_
    obtain ⟨r3, hcr3, hM⟩ := ob_use hM
    refine cl_V (As := [.int r1.1, .int (r1.2.2.2.1 - r1.1)]) (rest := []) (wM0 ad o_X r1 o_N o_T o_U o_O o_E o_Q o_V o_I ++ wMC cI ad o_C ++ wMX cI ad o_X ++ wMN cI ad o_N) (.int r3 :: []) ⟨hx, hb, hml, hown, hts⟩ (c_Model_wordOf l D cI sd ad r1 o_N o_T o_U o_O o_E o_Q o_V o_I o_C o_X r1.1 (r1.2.2.2.1 - r1.1) r3 hcr3) (cwV2 hts q1207 mvX8_wordOf rfl rfl ⟨(Nat.le_of_ble_eq_true rfl), (Nat.le_of_ble_eq_true rfl)⟩) hK hE hA hP hD hS 0 (T := TX8) (N := 48) (ci := 8) rfl rfl [0, 1, 2, 3, 4, 5] rfl (by decide) rfl rfl rfl rfl rfl rfl hl.1 (Nat.le_of_ble_eq_true rfl) dX8_readName_56 ⟨Nat.zero_le _, Nat.zero_le _⟩ (fun H locs hP hD hS => ?_)
    refine lv_istore_n (lv' := [(2, .int r3), (1, .int (r1.2.2.2.1 - r1.1)), (0, .ref (ad 100))]) hx hb dX8_readName_59 rfl hl (by decide) rfl (fun ls hl => ?_)
    refine lv_aload_n hx hb dX8_readName_60 rfl (lv_at hl 2 rfl) ?_
    refine lv_iload_n hx hb dX8_readName_61 rfl (lv_at hl 0 rfl) ?_
    refine lv_if_lt (tgt := 69) hx hb dX8_readName_62 (by decide) (fun c4 => ?_) (fun c4 => ?_)
    · replace hM := if_t c4 hM
      refine lv_bipush (v := 80) hx hb dX8_readName_69 (by decide) ?_
      refine va_put (D := D) (ci := 8) (v := .int 80) (ty := .int) (C := RX8) (T := TX8) (N := 48) hx hb hts layX8 tyX8 tyX8_ok nmX8 hown hK hP hD hS 0 rfl rfl 7 (by decide) (hts _ (inA q985)) (fun _ h9 => h9) rfl (by decide +kernel) rfl rfl (Nat.le_of_ble_eq_true rfl) dX8_readName_71 (fun H locs hP hD hS => ?_)
      have hP : va_P D vwCl (wM0 ad o_X (r1.1, 80, r1.2.2) o_N o_T o_U o_O o_E o_Q o_V o_I ++ wMC cI ad o_C ++ wMX cI ad o_X ++ wMN cI ad o_N) H := hP
      have hD : va_D A (wM0 ad o_X (r1.1, 80, r1.2.2) o_N o_T o_U o_O o_E o_Q o_V o_I ++ wMC cI ad o_C ++ wMX cI ad o_X ++ wMN cI ad o_N) := hD
      refine lv_aload_n hx hb dX8_readName_74 rfl (lv_at hl 2 rfl) ?_
      refine lv_iload_n hx hb dX8_readName_75 rfl (lv_at hl 0 rfl) ?_
      refine lv_if_lt (tgt := 83) hx hb dX8_readName_76 (by decide) (fun c5 => ?_) (fun c5 => ?_)
      · replace hM := if_t c5 hM
        refine lv_aload_n hx hb dX8_readName_83 rfl (lv_at hl 2 rfl) ?_
        refine lv_aload_n hx hb dX8_readName_84 rfl (lv_at hl 2 rfl) ?_
        refine va_get (D := D) (ci := 8) (v := .int r1.1) (C := RX8) (T := TX8) (N := 48) hx hb hts layX8 hown hK hP 0 rfl rfl 6 (by decide) (hts _ (inA q984)) (fun _ h9 => h9) rfl dX8_readName_85 ?_
        refine lv_iload_n hx hb dX8_readName_88 rfl (lv_at hl 1 rfl) ?_
        obtain ⟨r6, hcr6, hM⟩ := ob_use hM
        refine cl_V (As := [.int r1.1, .int (r1.2.2.2.1 - r1.1)]) (rest := [.ref (ad 100)]) (wM0 ad o_X (r1.1, 80, r1.2.2) r6.2 o_T o_U o_O o_E o_Q o_V o_I ++ wMC cI ad o_C ++ wMX cI ad o_X ++ wMN cI ad r6.2) (.int r6.1 :: [.ref (ad 100)]) ⟨hx, hb, hml, hown, hts⟩ (c_Model_nameOf l D cI sd ad o_C (r1.1, 80, r1.2.2) o_T o_U o_O o_E o_Q o_V o_I o_X o_N r1.1 (r1.2.2.2.1 - r1.1) r6 hcr6) (cwV2 hts q1211 mvX8_nameOf rfl rfl ⟨(Nat.le_of_ble_eq_true rfl), (Nat.le_of_ble_eq_true rfl)⟩) hK hE hA hP hD hS 0 (T := TX8) (N := 48) (ci := 8) rfl rfl [0, 5, 6, 7] rfl (by decide) rfl rfl rfl rfl rfl rfl hl.1 (Nat.le_of_ble_eq_true rfl) dX8_readName_89 ⟨Nat.zero_le _, Nat.zero_le _⟩ (fun H locs hP hD hS => ?_)
        refine va_put (D := D) (ci := 8) (v := .int r6.1) (ty := .int) (C := RX8) (T := TX8) (N := 48) hx hb hts layX8 tyX8 tyX8_ok nmX8 hown hK hP hD hS 0 rfl rfl 8 (by decide) (hts _ (inA q986)) (fun _ h9 => h9) rfl (by decide +kernel) rfl rfl (Nat.le_of_ble_eq_true rfl) dX8_readName_92 (fun H locs hP hD hS => ?_)
        have hP : va_P D vwCl (wM0 ad o_X (r1.1, 80, r6.1, r1.2.2.2) r6.2 o_T o_U o_O o_E o_Q o_V o_I ++ wMC cI ad o_C ++ wMX cI ad o_X ++ wMN cI ad r6.2) H := hP
        have hD : va_D A (wM0 ad o_X (r1.1, 80, r6.1, r1.2.2.2) r6.2 o_T o_U o_O o_E o_Q o_V o_I ++ wMC cI ad o_C ++ wMX cI ad o_X ++ wMN cI ad r6.2) := hD
        cases hM
        exact rt_v hx hb hr hlk hP hD hS rfl dX8_readName_95
      · replace hM := if_f c5 hM
        refine lv_iconst (v := 0) hx hb dX8_readName_79 (by decide) ?_
        refine lv_goto (tgt := 92) hx hb dX8_readName_80 (by decide) ?_
        refine va_put (D := D) (ci := 8) (v := .int 0) (ty := .int) (C := RX8) (T := TX8) (N := 48) hx hb hts layX8 tyX8 tyX8_ok nmX8 hown hK hP hD hS 0 rfl rfl 8 (by decide) (hts _ (inA q986)) (fun _ h9 => h9) rfl (by decide +kernel) rfl rfl (Nat.le_of_ble_eq_true rfl) dX8_readName_92 (fun H locs hP hD hS => ?_)
        have hP : va_P D vwCl (wM0 ad o_X (r1.1, 80, 0, r1.2.2.2) o_N o_T o_U o_O o_E o_Q o_V o_I ++ wMC cI ad o_C ++ wMX cI ad o_X ++ wMN cI ad o_N) H := hP
        have hD : va_D A (wM0 ad o_X (r1.1, 80, 0, r1.2.2.2) o_N o_T o_U o_O o_E o_Q o_V o_I ++ wMC cI ad o_C ++ wMX cI ad o_X ++ wMN cI ad o_N) := hD
        cases hM
        exact rt_v hx hb hr hlk hP hD hS rfl dX8_readName_95
    · replace hM := if_f c4 hM
      refine lv_iload_n hx hb dX8_readName_65 rfl (lv_at hl 0 rfl) ?_
      refine lv_goto (tgt := 71) hx hb dX8_readName_66 (by decide) ?_
      refine va_put (D := D) (ci := 8) (v := .int r3) (ty := .int) (C := RX8) (T := TX8) (N := 48) hx hb hts layX8 tyX8 tyX8_ok nmX8 hown hK hP hD hS 0 rfl rfl 7 (by decide) (hts _ (inA q985)) (fun _ h9 => h9) rfl (by decide +kernel) rfl rfl (Nat.le_of_ble_eq_true rfl) dX8_readName_71 (fun H locs hP hD hS => ?_)
      have hP : va_P D vwCl (wM0 ad o_X (r1.1, r3, r1.2.2) o_N o_T o_U o_O o_E o_Q o_V o_I ++ wMC cI ad o_C ++ wMX cI ad o_X ++ wMN cI ad o_N) H := hP
      have hD : va_D A (wM0 ad o_X (r1.1, r3, r1.2.2) o_N o_T o_U o_O o_E o_Q o_V o_I ++ wMC cI ad o_C ++ wMX cI ad o_X ++ wMN cI ad o_N) := hD
      refine lv_aload_n hx hb dX8_readName_74 rfl (lv_at hl 2 rfl) ?_
      refine lv_iload_n hx hb dX8_readName_75 rfl (lv_at hl 0 rfl) ?_
      refine lv_if_lt (tgt := 83) hx hb dX8_readName_76 (by decide) (fun c7 => ?_) (fun c7 => ?_)
      · replace hM := if_t c7 hM
        refine lv_aload_n hx hb dX8_readName_83 rfl (lv_at hl 2 rfl) ?_
        refine lv_aload_n hx hb dX8_readName_84 rfl (lv_at hl 2 rfl) ?_
        refine va_get (D := D) (ci := 8) (v := .int r1.1) (C := RX8) (T := TX8) (N := 48) hx hb hts layX8 hown hK hP 0 rfl rfl 6 (by decide) (hts _ (inA q984)) (fun _ h9 => h9) rfl dX8_readName_85 ?_
        refine lv_iload_n hx hb dX8_readName_88 rfl (lv_at hl 1 rfl) ?_
        obtain ⟨r8, hcr8, hM⟩ := ob_use hM
        refine cl_V (As := [.int r1.1, .int (r1.2.2.2.1 - r1.1)]) (rest := [.ref (ad 100)]) (wM0 ad o_X (r1.1, r3, r1.2.2) r8.2 o_T o_U o_O o_E o_Q o_V o_I ++ wMC cI ad o_C ++ wMX cI ad o_X ++ wMN cI ad r8.2) (.int r8.1 :: [.ref (ad 100)]) ⟨hx, hb, hml, hown, hts⟩ (c_Model_nameOf l D cI sd ad o_C (r1.1, r3, r1.2.2) o_T o_U o_O o_E o_Q o_V o_I o_X o_N r1.1 (r1.2.2.2.1 - r1.1) r8 hcr8) (cwV2 hts q1211 mvX8_nameOf rfl rfl ⟨(Nat.le_of_ble_eq_true rfl), (Nat.le_of_ble_eq_true rfl)⟩) hK hE hA hP hD hS 0 (T := TX8) (N := 48) (ci := 8) rfl rfl [0, 5, 6, 7] rfl (by decide) rfl rfl rfl rfl rfl rfl hl.1 (Nat.le_of_ble_eq_true rfl) dX8_readName_89 ⟨Nat.zero_le _, Nat.zero_le _⟩ (fun H locs hP hD hS => ?_)
        refine va_put (D := D) (ci := 8) (v := .int r8.1) (ty := .int) (C := RX8) (T := TX8) (N := 48) hx hb hts layX8 tyX8 tyX8_ok nmX8 hown hK hP hD hS 0 rfl rfl 8 (by decide) (hts _ (inA q986)) (fun _ h9 => h9) rfl (by decide +kernel) rfl rfl (Nat.le_of_ble_eq_true rfl) dX8_readName_92 (fun H locs hP hD hS => ?_)
        have hP : va_P D vwCl (wM0 ad o_X (r1.1, r3, r8.1, r1.2.2.2) r8.2 o_T o_U o_O o_E o_Q o_V o_I ++ wMC cI ad o_C ++ wMX cI ad o_X ++ wMN cI ad r8.2) H := hP
        have hD : va_D A (wM0 ad o_X (r1.1, r3, r8.1, r1.2.2.2) r8.2 o_T o_U o_O o_E o_Q o_V o_I ++ wMC cI ad o_C ++ wMX cI ad o_X ++ wMN cI ad r8.2) := hD
        cases hM
        exact rt_v hx hb hr hlk hP hD hS rfl dX8_readName_95
      · replace hM := if_f c7 hM
        refine lv_iconst (v := 0) hx hb dX8_readName_79 (by decide) ?_
        refine lv_goto (tgt := 92) hx hb dX8_readName_80 (by decide) ?_
        refine va_put (D := D) (ci := 8) (v := .int 0) (ty := .int) (C := RX8) (T := TX8) (N := 48) hx hb hts layX8 tyX8 tyX8_ok nmX8 hown hK hP hD hS 0 rfl rfl 8 (by decide) (hts _ (inA q986)) (fun _ h9 => h9) rfl (by decide +kernel) rfl rfl (Nat.le_of_ble_eq_true rfl) dX8_readName_92 (fun H locs hP hD hS => ?_)
        have hP : va_P D vwCl (wM0 ad o_X (r1.1, r3, 0, r1.2.2.2) o_N o_T o_U o_O o_E o_Q o_V o_I ++ wMC cI ad o_C ++ wMX cI ad o_X ++ wMN cI ad o_N) H := hP
        have hD : va_D A (wM0 ad o_X (r1.1, r3, 0, r1.2.2.2) o_N o_T o_U o_O o_E o_Q o_V o_I ++ wMC cI ad o_C ++ wMX cI ad o_X ++ wMN cI ad o_N) := hD
        cases hM
        exact rt_v hx hb hr hlk hP hD hS rfl dX8_readName_95
  · replace hM := if_f c2 hM
    refine lv_aload_n hx hb dX8_readName_40 rfl (lv_at hl 1 rfl) ?_
    refine lv_iconst (v := 3) hx hb dX8_readName_41 (by decide) ?_
    refine lv_aload_n hx hb dX8_readName_42 rfl (lv_at hl 1 rfl) ?_
    refine va_get (D := D) (ci := 8) (v := .int r1.1) (C := RX8) (T := TX8) (N := 48) hx hb hts layX8 hown hK hP 0 rfl rfl 6 (by decide) (hts _ (inA q984)) (fun _ h9 => h9) rfl dX8_readName_43 ?_
    obtain ⟨r9, hcr9, hM⟩ := ob_use hM
    refine cl_V (As := [.int 3, .int r1.1]) (rest := []) (wM0 ad o_X r9 o_N o_T o_U o_O o_E o_Q o_V o_I ++ wMC cI ad o_C ++ wMX cI ad o_X ++ wMN cI ad o_N) [] ⟨hx, hb, hml, hown, hts⟩ (c_Model_fail l D cI sd ad o_C o_X o_N o_T o_U o_O o_E o_Q o_V o_I r1 3 r1.1 r9 hcr9) (cwV2 hts q1163 mvX8_fail rfl rfl ⟨(Nat.le_of_ble_eq_true rfl), (Nat.le_of_ble_eq_true rfl)⟩) hK hE hA hP hD hS 0 (T := TX8) (N := 48) (ci := 8) rfl rfl [0] rfl (by decide) rfl rfl rfl rfl rfl rfl hl.1 (Nat.le_of_ble_eq_true rfl) dX8_readName_46 ⟨Nat.zero_le _, Nat.zero_le _⟩ (fun H locs hP hD hS => ?_)
    cases hM
    exact rt_v hx hb hr hlk hP hD hS rfl dX8_readName_49

set_option maxHeartbeats 4000000 in
set_option maxRecDepth 100000 in
theorem c_Model_digitOf (l : Launch) (D : va_G) (cI : ClassId) (sd : Nat → Nat) (ad : Nat → Nat) (a1 : Int32) (res : Int32) (hM : f_Model_digitOf a1 = some res) : Ctr l D cI sd yX8_digitOf (wsM yX8_digitOf cX8_digitOf 2 (Option.some Jvm.ClassFile.FieldType.int)) { frames := 1, cells := 0, slots := 0, locals := 20 } [.int a1] (([] : va_W)) (([] : va_W)) (some (.int res)) := by
  refine Ctr.of (cc := cX8_digitOf) (maxL := 2) (own := RX8) (by decide +kernel) rfl rfl (Nat.le_of_ble_eq_true rfl) ?_
  intro p e s m below meth c A ls hx hb hr hml hown hts hlk hK hE hA hP hD hS hl
  have hl : lv_has ls 2 [(0, .int a1)] := hl
  unfold f_Model_digitOf at hM
  refine lv_iload_n hx hb dX8_digitOf_0 rfl (lv_at hl 0 rfl) ?_
  obtain ⟨r1, hcr1, hM⟩ := ob_use hM
  refine cl_S (As := [.int a1]) (rest := []) (([] : va_W)) (.int r1 :: []) ⟨hx, hb, hml, hown, hts⟩ (c_Model_great l D cI sd ad a1 r1 hcr1) (cwS2 hts q1178 mvX8_great rfl rfl ⟨(Nat.le_of_ble_eq_true rfl), (Nat.le_of_ble_eq_true rfl)⟩) hK hE hA hP hD hS [] rfl (by decide) rfl rfl rfl rfl rfl rfl hl.1 (Nat.le_of_ble_eq_true rfl) dX8_digitOf_1 ⟨Nat.zero_le _, Nat.zero_le _⟩ (fun H locs hP hD hS => ?_)
  refine lv_istore_n (lv' := [(1, .int r1), (0, .int a1)]) hx hb dX8_digitOf_4 rfl hl (by decide) rfl (fun ls hl => ?_)
  refine lv_iload_n hx hb dX8_digitOf_5 rfl (lv_at hl 1 rfl) ?_
  obtain ⟨r2, hcr2, hM⟩ := ob_use hM
  refine cl_S (As := [.int a1]) (rest := []) (([] : va_W)) (.int r2 :: []) ⟨hx, hb, hml, hown, hts⟩ (c_Model_isDigit l D cI sd ad a1 r2 hcr2) (cwS2 hts q1181 mvX8_isDigit rfl rfl ⟨(Nat.le_of_ble_eq_true rfl), (Nat.le_of_ble_eq_true rfl)⟩) hK hE hA hP hD hS [] rfl (by decide) rfl rfl rfl rfl rfl rfl hl.1 (Nat.le_of_ble_eq_true rfl) dX8_digitOf_6 ⟨Nat.zero_le _, Nat.zero_le _⟩ (fun H locs hP hD hS => ?_)
  refine lv_if_eq (tgt := 19) hx hb dX8_digitOf_9 (by decide) (fun c3 => ?_) (fun c3 => ?_)
  · replace hM := if_t c3 hM
    refine lv_iload_n hx hb dX8_digitOf_19 rfl (lv_at hl 0 rfl) ?_
    refine lv_bipush (v := 65) hx hb dX8_digitOf_20 (by decide) ?_
    refine lv_icmp_lt (tgt := 41) hx hb dX8_digitOf_22 (by decide) (fun c4 => ?_) (fun c4 => ?_)
    · replace hM := if_t c4 hM
      refine lv_bipush (v := 99) hx hb dX8_digitOf_41 (by decide) ?_
      cases hM
      exact rt_i hx hb hr hlk hP hD hS rfl dX8_digitOf_43
    · replace hM := if_f c4 hM
      refine lv_iload_n hx hb dX8_digitOf_25 rfl (lv_at hl 0 rfl) ?_
      refine lv_bipush (v := 70) hx hb dX8_digitOf_26 (by decide) ?_
      refine lv_icmp_gt (tgt := 41) hx hb dX8_digitOf_28 (by decide) (fun c5 => ?_) (fun c5 => ?_)
      · replace hM := if_t c5 hM
        refine lv_bipush (v := 99) hx hb dX8_digitOf_41 (by decide) ?_
        cases hM
        exact rt_i hx hb hr hlk hP hD hS rfl dX8_digitOf_43
      · replace hM := if_f c5 hM
        refine lv_iload_n hx hb dX8_digitOf_31 rfl (lv_at hl 0 rfl) ?_
        refine lv_bipush (v := 65) hx hb dX8_digitOf_32 (by decide) ?_
        refine lv_isub hx hb dX8_digitOf_34 ?_
        refine lv_bipush (v := 10) hx hb dX8_digitOf_35 (by decide) ?_
        refine lv_iadd hx hb dX8_digitOf_37 ?_
        refine lv_goto (tgt := 43) hx hb dX8_digitOf_38 (by decide) ?_
        cases hM
        exact rt_i hx hb hr hlk hP hD hS rfl dX8_digitOf_43
  · replace hM := if_f c3 hM
    refine lv_iload_n hx hb dX8_digitOf_12 rfl (lv_at hl 1 rfl) ?_
    refine lv_bipush (v := 48) hx hb dX8_digitOf_13 (by decide) ?_
    refine lv_isub hx hb dX8_digitOf_15 ?_
    refine lv_goto (tgt := 43) hx hb dX8_digitOf_16 (by decide) ?_
    cases hM
    exact rt_i hx hb hr hlk hP hD hS rfl dX8_digitOf_43

set_option maxHeartbeats 4000000 in
set_option maxRecDepth 100000 in
theorem c_Model_digits (l : Launch) (D : va_G) (cI : ClassId) (sd : Nat → Nat) (ad : Nat → Nat) (o_C : S_MC) (o_N : S_MN) (o_T : S_MT) (o_U : S_MU) (o_O : S_MO) (o_E : S_ME) (o_Q : S_MQ) (o_V : S_MV) (o_I : S_MI) (o_X : S_MX) (o_L : S_ML) (a1 : Int32) (res : Int64 × S_ML) (hM : f_Model_digits o_X o_L a1 = some res) : Ctr l D cI sd yX8_digits (wsM yX8_digits cX8_digits 5 (Option.some Jvm.ClassFile.FieldType.long)) { frames := 2, cells := 0, slots := 0, locals := 41 } [.ref (ad 100), .int a1] (wM0 ad o_X o_L o_N o_T o_U o_O o_E o_Q o_V o_I ++ wMX cI ad o_X) (wM0 ad o_X res.2 o_N o_T o_U o_O o_E o_Q o_V o_I ++ wMX cI ad o_X) (some (.long res.1)) := by
  refine Ctr.of (cc := cX8_digits) (maxL := 5) (own := RX8) (by decide +kernel) rfl rfl (Nat.le_of_ble_eq_true rfl) ?_
  intro p e s m below meth c A ls hx hb hr hml hown hts hlk hK hE hA hP hD hS hl
  have hl : lv_has ls 5 [(0, .ref (ad 100)), (1, .int a1)] := hl
  unfold f_Model_digits at hM
  refine lv_lconst (v := 0) hx hb dX8_digits_0 (by decide) ?_
  refine lv_lstore_n (lv' := [(2, .long 0), (0, .ref (ad 100)), (1, .int a1)]) hx hb dX8_digits_1 rfl hl (by decide) rfl (fun ls hl => ?_)
  refine lv_aload_n hx hb dX8_digits_2 rfl (lv_at hl 1 rfl) ?_
  refine va_get (D := D) (ci := 8) (v := .int o_L.2.2.2.1) (C := RX8) (T := TX8) (N := 48) hx hb hts layX8 hown hK hP 0 rfl rfl 9 (by decide) (hts _ (inA q987)) (fun _ h9 => h9) rfl dX8_digits_3 ?_
  refine lv_istore (lv' := [(4, .int o_L.2.2.2.1), (2, .long 0), (0, .ref (ad 100)), (1, .int a1)]) hx hb dX8_digits_6 hl (by decide) rfl (fun ls hl => ?_)
  have lp_L8 : ∀ (w4_L8 : Int32) (w1_L8 : Int32) (o_X_L8 : S_MX) (n : Nat) (v2_L8 : Int64) (o_L_L8 : S_ML) (out_L8 : Int64 × S_ML) (H : Heap) (locs : List Loc) (ls : Array Slot), f_Model_digits_L8 w1_L8 o_X_L8 n v2_L8 o_L_L8 = some out_L8 → va_P D vwCl (wM0 ad o_X_L8 o_L_L8 o_N o_T o_U o_O o_E o_Q o_V o_I ++ wMX cI ad o_X_L8) H → va_D A (wM0 ad o_X_L8 o_L_L8 o_N o_T o_U o_O o_E o_Q o_V o_I ++ wMX cI ad o_X_L8) → va_S A s.heap H locs → lv_has ls 5 [(4, .int w4_L8), (2, .long v2_L8), (0, .ref (ad 100)), (1, .int w1_L8)] → (∀ (H : Heap) (locs : List Loc) (ls : Array Slot), va_P D vwCl (wM0 ad o_X_L8 out_L8.2 o_N o_T o_U o_O o_E o_Q o_V o_I ++ wMX cI ad o_X_L8) H → va_D A (wM0 ad o_X_L8 out_L8.2 o_N o_T o_U o_O o_E o_Q o_V o_I ++ wMX cI ad o_X_L8) → va_S A s.heap H locs → lv_has ls 5 [(4, .int w4_L8), (2, .long out_L8.1), (0, .ref (ad 100)), (1, .int w1_L8)] → W p l e { frames := 2, cells := 0, slots := 0, locals := 41 } s m [.ref (ad 100), .int a1].toArray below meth c H locs 0 0 (MQ below (CQ D A (wM0 ad o_X res.2 o_N o_T o_U o_O o_E o_Q o_V o_I ++ wMX cI ad o_X) (some (.long res.1))) [.ref (ad 100), .int a1].toArray s 0 0 A) (F0 m 83 ls [])) → W p l e { frames := 2, cells := 0, slots := 0, locals := 41 } s m [.ref (ad 100), .int a1].toArray below meth c H locs 0 0 (MQ below (CQ D A (wM0 ad o_X res.2 o_N o_T o_U o_O o_E o_Q o_V o_I ++ wMX cI ad o_X) (some (.long res.1))) [.ref (ad 100), .int a1].toArray s 0 0 A) (F0 m 8 ls []) := by
    intro w4_L8 w1_L8 o_X_L8 n
    induction n with
    | zero => intro v2_L8 o_L_L8 out_L8 H locs ls hM; exact absurd (show none = some _ from hM) (by simp)
    | succ n ih_L8 =>
      intro v2_L8 o_L_L8 out_L8 H locs ls hM hP hD hS hl kx_L8
      rw [f_Model_digits_L8] at hM
      refine lv_aload_n hx hb dX8_digits_8 rfl (lv_at hl 2 rfl) ?_
      refine va_get (D := D) (ci := 8) (v := .int o_L_L8.2.2.2.1) (C := RX8) (T := TX8) (N := 48) hx hb hts layX8 hown hK hP 0 rfl rfl 9 (by decide) (hts _ (inA q987)) (fun _ h9 => h9) rfl dX8_digits_9 ?_
      refine lv_aload_n hx hb dX8_digits_12 rfl (lv_at hl 2 rfl) ?_
      refine va_get (D := D) (ci := 8) (v := .int o_X_L8.1) (C := RX8) (T := TX8) (N := 48) hx hb hts layX8 hown hK hP 0 rfl rfl 4 (by decide) (hts _ (inA q982)) (fun _ h9 => h9) rfl dX8_digits_13 ?_
      refine lv_icmp_ge (tgt := 83) hx hb dX8_digits_16 (by decide) (fun c1181 => ?_) (fun c1181 => ?_)
      · replace hM := if_t c1181 hM
        cases hM
        exact kx_L8 _ _ _ hP hD hS (lv_sub hl [0, 1, 2, 3] rfl)
      · replace hM := if_f c1181 hM
        refine lv_aload_n hx hb dX8_digits_19 rfl (lv_at hl 2 rfl) ?_
        refine va_get (D := D) (ci := 8) (v := .ref (ad 105)) (C := RX8) (T := TX8) (N := 48) hx hb hts layX8 hown hK hP 0 rfl rfl 5 (by decide) (hts _ (inA q983)) (fun _ h9 => h9) rfl dX8_digits_20 ?_
        refine lv_aload_n hx hb dX8_digits_23 rfl (lv_at hl 2 rfl) ?_
        refine va_get (D := D) (ci := 8) (v := .int o_L_L8.2.2.2.1) (C := RX8) (T := TX8) (N := 48) hx hb hts layX8 hown hK hP 0 rfl rfl 9 (by decide) (hts _ (inA q987)) (fun _ h9 => h9) rfl dX8_digits_24 ?_
        obtain ⟨b1182, hM⟩ := gd_use hM
        refine va_iald hx hb hK hP 1 0 rfl rfl b1182 dX8_digits_27 ?_
        obtain ⟨r1183, hcr1183, hM⟩ := ob_use hM
        refine cl_S (As := [.int (o_X_L8.2 o_L_L8.2.2.2.1.toNatClampNeg)]) (rest := []) (wM0 ad o_X_L8 o_L_L8 o_N o_T o_U o_O o_E o_Q o_V o_I ++ wMX cI ad o_X_L8) (.int r1183 :: []) ⟨hx, hb, hml, hown, hts⟩ (c_Model_digitOf l D cI sd ad (o_X_L8.2 o_L_L8.2.2.2.1.toNatClampNeg) r1183 hcr1183) (cwS2 hts q1175 mvX8_digitOf rfl rfl ⟨(Nat.le_of_ble_eq_true rfl), (Nat.le_of_ble_eq_true rfl)⟩) hK hE hA hP hD hS [] rfl (by decide) rfl rfl rfl rfl rfl rfl hl.1 (Nat.le_of_ble_eq_true rfl) dX8_digits_28 ⟨Nat.zero_le _, Nat.zero_le _⟩ (fun H locs hP hD hS => ?_)
        refine lv_iload_n hx hb dX8_digits_31 rfl (lv_at hl 3 rfl) ?_
        refine lv_icmp_ge (tgt := 83) hx hb dX8_digits_32 (by decide) (fun c1184 => ?_) (fun c1184 => ?_)
        · replace hM := if_t c1184 hM
          cases hM
          exact kx_L8 _ _ _ hP hD hS (lv_sub hl [0, 1, 2, 3] rfl)
        · replace hM := if_f c1184 hM
          refine lv_lload_n hx hb dX8_digits_35 rfl (lv_at hl 1 rfl) ?_
          refine lv_iload_n hx hb dX8_digits_36 rfl (lv_at hl 3 rfl) ?_
          refine lv_i2l hx hb dX8_digits_37 rfl ?_
          refine lv_lmul hx hb dX8_digits_38 ?_
          refine lv_aload_n hx hb dX8_digits_39 rfl (lv_at hl 2 rfl) ?_
          refine va_get (D := D) (ci := 8) (v := .ref (ad 105)) (C := RX8) (T := TX8) (N := 48) hx hb hts layX8 hown hK hP 0 rfl rfl 5 (by decide) (hts _ (inA q983)) (fun _ h9 => h9) rfl dX8_digits_40 ?_
          refine lv_aload_n hx hb dX8_digits_43 rfl (lv_at hl 2 rfl) ?_
          refine va_get (D := D) (ci := 8) (v := .int o_L_L8.2.2.2.1) (C := RX8) (T := TX8) (N := 48) hx hb hts layX8 hown hK hP 0 rfl rfl 9 (by decide) (hts _ (inA q987)) (fun _ h9 => h9) rfl dX8_digits_44 ?_
          obtain ⟨b1185, hM⟩ := gd_use hM
          refine va_iald hx hb hK hP 1 0 rfl rfl b1185 dX8_digits_47 ?_
          obtain ⟨r1186, hcr1186, hM⟩ := ob_use hM
          refine cl_S (As := [.int (o_X_L8.2 o_L_L8.2.2.2.1.toNatClampNeg)]) (rest := [.long (v2_L8 * w1_L8.toInt64)]) (wM0 ad o_X_L8 o_L_L8 o_N o_T o_U o_O o_E o_Q o_V o_I ++ wMX cI ad o_X_L8) (.int r1186 :: [.long (v2_L8 * w1_L8.toInt64)]) ⟨hx, hb, hml, hown, hts⟩ (c_Model_digitOf l D cI sd ad (o_X_L8.2 o_L_L8.2.2.2.1.toNatClampNeg) r1186 hcr1186) (cwS2 hts q1175 mvX8_digitOf rfl rfl ⟨(Nat.le_of_ble_eq_true rfl), (Nat.le_of_ble_eq_true rfl)⟩) hK hE hA hP hD hS [] rfl (by decide) rfl rfl rfl rfl rfl rfl hl.1 (Nat.le_of_ble_eq_true rfl) dX8_digits_48 ⟨Nat.zero_le _, Nat.zero_le _⟩ (fun H locs hP hD hS => ?_)
          refine lv_i2l hx hb dX8_digits_51 rfl ?_
          refine lv_ladd hx hb dX8_digits_52 ?_
          refine lv_topl (fun x1187 ex1187 => ?_)
          replace hM := nm_use ex1187 hM
          refine lv_lstore_n (lv' := [(2, .long x1187), (4, .int w4_L8), (0, .ref (ad 100)), (1, .int w1_L8)]) hx hb dX8_digits_53 rfl hl (by decide) rfl (fun ls hl => ?_)
          refine lv_lload_n hx hb dX8_digits_54 rfl (lv_at hl 0 rfl) ?_
          refine lv_ldc2 (v := 1000000000000) hx hb hown (hts _ (inA q1184)) dX8_digits_55 ?_
          refine W.lcmp hx hb dX8_digits_58 ?_
          refine lv_if_le (tgt := 68) hx hb dX8_digits_59 (by decide) (fun c1188 => ?_) (fun c1188 => ?_)
          · replace hM := if_t c1188 hM
            refine lv_lload_n hx hb dX8_digits_68 rfl (lv_at hl 0 rfl) ?_
            refine lv_lstore_n (lv' := [(2, .long x1187), (4, .int w4_L8), (0, .ref (ad 100)), (1, .int w1_L8)]) hx hb dX8_digits_69 rfl hl (by decide) rfl (fun ls hl => ?_)
            refine lv_aload_n hx hb dX8_digits_70 rfl (lv_at hl 2 rfl) ?_
            refine lv_dup hx hb dX8_digits_71 rfl ?_
            refine va_get (D := D) (ci := 8) (v := .int o_L_L8.2.2.2.1) (C := RX8) (T := TX8) (N := 48) hx hb hts layX8 hown hK hP 0 rfl rfl 9 (by decide) (hts _ (inA q987)) (fun _ h9 => h9) rfl dX8_digits_72 ?_
            refine lv_iconst (v := 1) hx hb dX8_digits_75 (by decide) ?_
            refine lv_iadd hx hb dX8_digits_76 ?_
            refine va_put (D := D) (ci := 8) (v := .int (o_L_L8.2.2.2.1 + 1)) (ty := .int) (C := RX8) (T := TX8) (N := 48) hx hb hts layX8 tyX8 tyX8_ok nmX8 hown hK hP hD hS 0 rfl rfl 9 (by decide) (hts _ (inA q987)) (fun _ h9 => h9) rfl (by decide +kernel) rfl rfl (Nat.le_of_ble_eq_true rfl) dX8_digits_77 (fun H locs hP hD hS => ?_)
            have hP : va_P D vwCl (wM0 ad o_X_L8 (o_L_L8.1, o_L_L8.2.1, o_L_L8.2.2.1, o_L_L8.2.2.2.1 + 1, o_L_L8.2.2.2.2) o_N o_T o_U o_O o_E o_Q o_V o_I ++ wMX cI ad o_X_L8) H := hP
            have hD : va_D A (wM0 ad o_X_L8 (o_L_L8.1, o_L_L8.2.1, o_L_L8.2.2.1, o_L_L8.2.2.2.1 + 1, o_L_L8.2.2.2.2) o_N o_T o_U o_O o_E o_Q o_V o_I ++ wMX cI ad o_X_L8) := hD
            refine lv_goto (tgt := 8) hx hb dX8_digits_80 (by decide) ?_
            exact ih_L8 x1187 (o_L_L8.1, o_L_L8.2.1, o_L_L8.2.2.1, o_L_L8.2.2.2.1 + 1, o_L_L8.2.2.2.2) out_L8 _ _ _ hM hP hD hS (lv_sub hl [1, 0, 2, 3] rfl) kx_L8
          · replace hM := if_f c1188 hM
            refine lv_ldc2 (v := 1000000000000) hx hb hown (hts _ (inA q1184)) dX8_digits_62 ?_
            refine lv_goto (tgt := 69) hx hb dX8_digits_65 (by decide) ?_
            refine lv_lstore_n (lv' := [(2, .long 1000000000000), (4, .int w4_L8), (0, .ref (ad 100)), (1, .int w1_L8)]) hx hb dX8_digits_69 rfl hl (by decide) rfl (fun ls hl => ?_)
            refine lv_aload_n hx hb dX8_digits_70 rfl (lv_at hl 2 rfl) ?_
            refine lv_dup hx hb dX8_digits_71 rfl ?_
            refine va_get (D := D) (ci := 8) (v := .int o_L_L8.2.2.2.1) (C := RX8) (T := TX8) (N := 48) hx hb hts layX8 hown hK hP 0 rfl rfl 9 (by decide) (hts _ (inA q987)) (fun _ h9 => h9) rfl dX8_digits_72 ?_
            refine lv_iconst (v := 1) hx hb dX8_digits_75 (by decide) ?_
            refine lv_iadd hx hb dX8_digits_76 ?_
            refine va_put (D := D) (ci := 8) (v := .int (o_L_L8.2.2.2.1 + 1)) (ty := .int) (C := RX8) (T := TX8) (N := 48) hx hb hts layX8 tyX8 tyX8_ok nmX8 hown hK hP hD hS 0 rfl rfl 9 (by decide) (hts _ (inA q987)) (fun _ h9 => h9) rfl (by decide +kernel) rfl rfl (Nat.le_of_ble_eq_true rfl) dX8_digits_77 (fun H locs hP hD hS => ?_)
            have hP : va_P D vwCl (wM0 ad o_X_L8 (o_L_L8.1, o_L_L8.2.1, o_L_L8.2.2.1, o_L_L8.2.2.2.1 + 1, o_L_L8.2.2.2.2) o_N o_T o_U o_O o_E o_Q o_V o_I ++ wMX cI ad o_X_L8) H := hP
            have hD : va_D A (wM0 ad o_X_L8 (o_L_L8.1, o_L_L8.2.1, o_L_L8.2.2.1, o_L_L8.2.2.2.1 + 1, o_L_L8.2.2.2.2) o_N o_T o_U o_O o_E o_Q o_V o_I ++ wMX cI ad o_X_L8) := hD
            refine lv_goto (tgt := 8) hx hb dX8_digits_80 (by decide) ?_
            exact ih_L8 1000000000000 (o_L_L8.1, o_L_L8.2.1, o_L_L8.2.2.1, o_L_L8.2.2.2.1 + 1, o_L_L8.2.2.2.2) out_L8 _ _ _ hM hP hD hS (lv_sub hl [1, 0, 2, 3] rfl) kx_L8
  obtain ⟨r1, hcr1, hM⟩ := ob_use hM
  refine lp_L8 o_L.2.2.2.1 a1 o_X FU 0 o_L r1 _ _ _ hcr1 hP hD hS (lv_sub hl [0, 1, 2, 3] rfl) (fun H locs ls hP hD hS hl => ?_)
  refine lv_aload_n hx hb dX8_digits_83 rfl (lv_at hl 2 rfl) ?_
  refine va_get (D := D) (ci := 8) (v := .int r1.2.2.2.2.1) (C := RX8) (T := TX8) (N := 48) hx hb hts layX8 hown hK hP 0 rfl rfl 9 (by decide) (hts _ (inA q987)) (fun _ h9 => h9) rfl dX8_digits_84 ?_
  refine lv_iload hx hb dX8_digits_87 (lv_at hl 0 rfl) ?_
  refine lv_icmp_ne (tgt := 98) hx hb dX8_digits_89 (by decide) (fun c2 => ?_) (fun c2 => ?_)
  · replace hM := if_f c2 hM
    refine lv_lload_n hx hb dX8_digits_98 rfl (lv_at hl 1 rfl) ?_
    cases hM
    exact rt_l hx hb hr hlk hP hD hS rfl dX8_digits_99
  · replace hM := if_t c2 hM
    refine lv_ldc2 (v := (-1)) hx hb hown (hts _ (inA q1185)) dX8_digits_92 ?_
    refine lv_goto (tgt := 99) hx hb dX8_digits_95 (by decide) ?_
    cases hM
    exact rt_l hx hb hr hlk hP hD hS rfl dX8_digits_99

set_option maxHeartbeats 4000000 in
set_option maxRecDepth 100000 in
theorem c_Model_isLetter (l : Launch) (D : va_G) (cI : ClassId) (sd : Nat → Nat) (ad : Nat → Nat) (a1 : Int32) (res : Int32) (hM : f_Model_isLetter a1 = some res) : Ctr l D cI sd yX8_isLetter (wsM yX8_isLetter cX8_isLetter 1 (Option.some Jvm.ClassFile.FieldType.boolean)) { frames := 0, cells := 0, slots := 0, locals := 0 } [.int a1] (([] : va_W)) (([] : va_W)) (some (.int res)) := by
  refine Ctr.of (cc := cX8_isLetter) (maxL := 1) (own := RX8) (by decide +kernel) rfl rfl (Nat.le_of_ble_eq_true rfl) ?_
  intro p e s m below meth c A ls hx hb hr hml hown hts hlk hK hE hA hP hD hS hl
  have hl : lv_has ls 1 [(0, .int a1)] := hl
  unfold f_Model_isLetter at hM
  refine lv_iload_n hx hb dX8_isLetter_0 rfl (lv_at hl 0 rfl) ?_
  refine lv_bipush (v := 65) hx hb dX8_isLetter_1 (by decide) ?_
  refine lv_icmp_lt (tgt := 12) hx hb dX8_isLetter_3 (by decide) (fun c1 => ?_) (fun c1 => ?_)
  · replace hM := if_t c1 hM
    refine lv_iload_n hx hb dX8_isLetter_12 rfl (lv_at hl 0 rfl) ?_
    refine lv_bipush (v := 97) hx hb dX8_isLetter_13 (by decide) ?_
    refine lv_icmp_lt (tgt := 24) hx hb dX8_isLetter_15 (by decide) (fun c2 => ?_) (fun c2 => ?_)
    · replace hM := if_t c2 hM
      refine lv_iload_n hx hb dX8_isLetter_24 rfl (lv_at hl 0 rfl) ?_
      refine lv_bipush (v := 95) hx hb dX8_isLetter_25 (by decide) ?_
      refine lv_icmp_ne (tgt := 34) hx hb dX8_isLetter_27 (by decide) (fun c3 => ?_) (fun c3 => ?_)
      · replace hM := if_f c3 hM
        refine lv_iconst (v := 0) hx hb dX8_isLetter_34 (by decide) ?_
        cases hM
        exact rt_z hx hb hr hlk (by decide) hP hD hS rfl dX8_isLetter_35
      · replace hM := if_t c3 hM
        refine lv_iconst (v := 1) hx hb dX8_isLetter_30 (by decide) ?_
        refine lv_goto (tgt := 35) hx hb dX8_isLetter_31 (by decide) ?_
        cases hM
        exact rt_z hx hb hr hlk (by decide) hP hD hS rfl dX8_isLetter_35
    · replace hM := if_f c2 hM
      refine lv_iload_n hx hb dX8_isLetter_18 rfl (lv_at hl 0 rfl) ?_
      refine lv_bipush (v := 122) hx hb dX8_isLetter_19 (by decide) ?_
      refine lv_icmp_le (tgt := 30) hx hb dX8_isLetter_21 (by decide) (fun c4 => ?_) (fun c4 => ?_)
      · replace hM := if_t c4 hM
        refine lv_iconst (v := 1) hx hb dX8_isLetter_30 (by decide) ?_
        refine lv_goto (tgt := 35) hx hb dX8_isLetter_31 (by decide) ?_
        cases hM
        exact rt_z hx hb hr hlk (by decide) hP hD hS rfl dX8_isLetter_35
      · replace hM := if_f c4 hM
        refine lv_iload_n hx hb dX8_isLetter_24 rfl (lv_at hl 0 rfl) ?_
        refine lv_bipush (v := 95) hx hb dX8_isLetter_25 (by decide) ?_
        refine lv_icmp_ne (tgt := 34) hx hb dX8_isLetter_27 (by decide) (fun c5 => ?_) (fun c5 => ?_)
        · replace hM := if_f c5 hM
          refine lv_iconst (v := 0) hx hb dX8_isLetter_34 (by decide) ?_
          cases hM
          exact rt_z hx hb hr hlk (by decide) hP hD hS rfl dX8_isLetter_35
        · replace hM := if_t c5 hM
          refine lv_iconst (v := 1) hx hb dX8_isLetter_30 (by decide) ?_
          refine lv_goto (tgt := 35) hx hb dX8_isLetter_31 (by decide) ?_
          cases hM
          exact rt_z hx hb hr hlk (by decide) hP hD hS rfl dX8_isLetter_35
  · replace hM := if_f c1 hM
    refine lv_iload_n hx hb dX8_isLetter_6 rfl (lv_at hl 0 rfl) ?_
    refine lv_bipush (v := 90) hx hb dX8_isLetter_7 (by decide) ?_
    refine lv_icmp_le (tgt := 30) hx hb dX8_isLetter_9 (by decide) (fun c6 => ?_) (fun c6 => ?_)
    · replace hM := if_t c6 hM
      refine lv_iconst (v := 1) hx hb dX8_isLetter_30 (by decide) ?_
      refine lv_goto (tgt := 35) hx hb dX8_isLetter_31 (by decide) ?_
      cases hM
      exact rt_z hx hb hr hlk (by decide) hP hD hS rfl dX8_isLetter_35
    · replace hM := if_f c6 hM
      refine lv_iload_n hx hb dX8_isLetter_12 rfl (lv_at hl 0 rfl) ?_
      refine lv_bipush (v := 97) hx hb dX8_isLetter_13 (by decide) ?_
      refine lv_icmp_lt (tgt := 24) hx hb dX8_isLetter_15 (by decide) (fun c7 => ?_) (fun c7 => ?_)
      · replace hM := if_t c7 hM
        refine lv_iload_n hx hb dX8_isLetter_24 rfl (lv_at hl 0 rfl) ?_
        refine lv_bipush (v := 95) hx hb dX8_isLetter_25 (by decide) ?_
        refine lv_icmp_ne (tgt := 34) hx hb dX8_isLetter_27 (by decide) (fun c8 => ?_) (fun c8 => ?_)
        · replace hM := if_f c8 hM
          refine lv_iconst (v := 0) hx hb dX8_isLetter_34 (by decide) ?_
          cases hM
          exact rt_z hx hb hr hlk (by decide) hP hD hS rfl dX8_isLetter_35
        · replace hM := if_t c8 hM
          refine lv_iconst (v := 1) hx hb dX8_isLetter_30 (by decide) ?_
          refine lv_goto (tgt := 35) hx hb dX8_isLetter_31 (by decide) ?_
          cases hM
          exact rt_z hx hb hr hlk (by decide) hP hD hS rfl dX8_isLetter_35
      · replace hM := if_f c7 hM
        refine lv_iload_n hx hb dX8_isLetter_18 rfl (lv_at hl 0 rfl) ?_
        refine lv_bipush (v := 122) hx hb dX8_isLetter_19 (by decide) ?_
        refine lv_icmp_le (tgt := 30) hx hb dX8_isLetter_21 (by decide) (fun c9 => ?_) (fun c9 => ?_)
        · replace hM := if_t c9 hM
          refine lv_iconst (v := 1) hx hb dX8_isLetter_30 (by decide) ?_
          refine lv_goto (tgt := 35) hx hb dX8_isLetter_31 (by decide) ?_
          cases hM
          exact rt_z hx hb hr hlk (by decide) hP hD hS rfl dX8_isLetter_35
        · replace hM := if_f c9 hM
          refine lv_iload_n hx hb dX8_isLetter_24 rfl (lv_at hl 0 rfl) ?_
          refine lv_bipush (v := 95) hx hb dX8_isLetter_25 (by decide) ?_
          refine lv_icmp_ne (tgt := 34) hx hb dX8_isLetter_27 (by decide) (fun c10 => ?_) (fun c10 => ?_)
          · replace hM := if_f c10 hM
            refine lv_iconst (v := 0) hx hb dX8_isLetter_34 (by decide) ?_
            cases hM
            exact rt_z hx hb hr hlk (by decide) hP hD hS rfl dX8_isLetter_35
          · replace hM := if_t c10 hM
            refine lv_iconst (v := 1) hx hb dX8_isLetter_30 (by decide) ?_
            refine lv_goto (tgt := 35) hx hb dX8_isLetter_31 (by decide) ?_
            cases hM
            exact rt_z hx hb hr hlk (by decide) hP hD hS rfl dX8_isLetter_35

set_option maxHeartbeats 4000000 in
set_option maxRecDepth 100000 in
theorem c_Model_isDigit (l : Launch) (D : va_G) (cI : ClassId) (sd : Nat → Nat) (ad : Nat → Nat) (a1 : Int32) (res : Int32) (hM : f_Model_isDigit a1 = some res) : Ctr l D cI sd yX8_isDigit (wsM yX8_isDigit cX8_isDigit 1 (Option.some Jvm.ClassFile.FieldType.boolean)) { frames := 0, cells := 0, slots := 0, locals := 0 } [.int a1] (([] : va_W)) (([] : va_W)) (some (.int res)) := by
  refine Ctr.of (cc := cX8_isDigit) (maxL := 1) (own := RX8) (by decide +kernel) rfl rfl (Nat.le_of_ble_eq_true rfl) ?_
  intro p e s m below meth c A ls hx hb hr hml hown hts hlk hK hE hA hP hD hS hl
  have hl : lv_has ls 1 [(0, .int a1)] := hl
  unfold f_Model_isDigit at hM
  refine lv_iload_n hx hb dX8_isDigit_0 rfl (lv_at hl 0 rfl) ?_
  refine lv_bipush (v := 48) hx hb dX8_isDigit_1 (by decide) ?_
  refine lv_icmp_lt (tgt := 16) hx hb dX8_isDigit_3 (by decide) (fun c1 => ?_) (fun c1 => ?_)
  · replace hM := if_t c1 hM
    refine lv_iconst (v := 0) hx hb dX8_isDigit_16 (by decide) ?_
    cases hM
    exact rt_z hx hb hr hlk (by decide) hP hD hS rfl dX8_isDigit_17
  · replace hM := if_f c1 hM
    refine lv_iload_n hx hb dX8_isDigit_6 rfl (lv_at hl 0 rfl) ?_
    refine lv_bipush (v := 57) hx hb dX8_isDigit_7 (by decide) ?_
    refine lv_icmp_gt (tgt := 16) hx hb dX8_isDigit_9 (by decide) (fun c2 => ?_) (fun c2 => ?_)
    · replace hM := if_t c2 hM
      refine lv_iconst (v := 0) hx hb dX8_isDigit_16 (by decide) ?_
      cases hM
      exact rt_z hx hb hr hlk (by decide) hP hD hS rfl dX8_isDigit_17
    · replace hM := if_f c2 hM
      refine lv_iconst (v := 1) hx hb dX8_isDigit_12 (by decide) ?_
      refine lv_goto (tgt := 17) hx hb dX8_isDigit_13 (by decide) ?_
      cases hM
      exact rt_z hx hb hr hlk (by decide) hP hD hS rfl dX8_isDigit_17

set_option maxHeartbeats 4000000 in
set_option maxRecDepth 100000 in
theorem c_Model_great (l : Launch) (D : va_G) (cI : ClassId) (sd : Nat → Nat) (ad : Nat → Nat) (a1 : Int32) (res : Int32) (hM : f_Model_great a1 = some res) : Ctr l D cI sd yX8_great (wsM yX8_great cX8_great 1 (Option.some Jvm.ClassFile.FieldType.int)) { frames := 0, cells := 0, slots := 0, locals := 0 } [.int a1] (([] : va_W)) (([] : va_W)) (some (.int res)) := by
  refine Ctr.of (cc := cX8_great) (maxL := 1) (own := RX8) (by decide +kernel) rfl rfl (Nat.le_of_ble_eq_true rfl) ?_
  intro p e s m below meth c A ls hx hb hr hml hown hts hlk hK hE hA hP hD hS hl
  have hl : lv_has ls 1 [(0, .int a1)] := hl
  unfold f_Model_great at hM
  refine lv_iload_n hx hb dX8_great_0 rfl (lv_at hl 0 rfl) ?_
  refine lv_bipush (v := 97) hx hb dX8_great_1 (by decide) ?_
  refine lv_icmp_lt (tgt := 19) hx hb dX8_great_3 (by decide) (fun c1 => ?_) (fun c1 => ?_)
  · replace hM := if_t c1 hM
    refine lv_iload_n hx hb dX8_great_19 rfl (lv_at hl 0 rfl) ?_
    cases hM
    exact rt_i hx hb hr hlk hP hD hS rfl dX8_great_20
  · replace hM := if_f c1 hM
    refine lv_iload_n hx hb dX8_great_6 rfl (lv_at hl 0 rfl) ?_
    refine lv_bipush (v := 122) hx hb dX8_great_7 (by decide) ?_
    refine lv_icmp_gt (tgt := 19) hx hb dX8_great_9 (by decide) (fun c2 => ?_) (fun c2 => ?_)
    · replace hM := if_t c2 hM
      refine lv_iload_n hx hb dX8_great_19 rfl (lv_at hl 0 rfl) ?_
      cases hM
      exact rt_i hx hb hr hlk hP hD hS rfl dX8_great_20
    · replace hM := if_f c2 hM
      refine lv_iload_n hx hb dX8_great_12 rfl (lv_at hl 0 rfl) ?_
      refine lv_bipush (v := 32) hx hb dX8_great_13 (by decide) ?_
      refine lv_isub hx hb dX8_great_15 ?_
      refine lv_goto (tgt := 20) hx hb dX8_great_16 (by decide) ?_
      cases hM
      exact rt_i hx hb hr hlk hP hD hS rfl dX8_great_20

set_option maxHeartbeats 4000000 in
set_option maxRecDepth 100000 in
theorem c_Model_at (l : Launch) (D : va_G) (cI : ClassId) (sd : Nat → Nat) (ad : Nat → Nat) (o_C : S_MC) (o_L : S_ML) (o_N : S_MN) (o_T : S_MT) (o_U : S_MU) (o_O : S_MO) (o_E : S_ME) (o_Q : S_MQ) (o_V : S_MV) (o_I : S_MI) (o_X : S_MX) (a1 : Int32) (res : Int32) (hM : f_Model_at o_X a1 = some res) : Ctr l D cI sd yX8_at (wsM yX8_at cX8_at 2 (Option.some Jvm.ClassFile.FieldType.int)) { frames := 0, cells := 0, slots := 0, locals := 0 } [.ref (ad 100), .int a1] (wM_X cI ad o_X o_L o_N o_T o_U o_O o_E o_Q o_V o_I) (wM_X cI ad o_X o_L o_N o_T o_U o_O o_E o_Q o_V o_I) (some (.int res)) := by
  refine Ctr.of (cc := cX8_at) (maxL := 2) (own := RX8) (by decide +kernel) rfl rfl (Nat.le_of_ble_eq_true rfl) ?_
  intro p e s m below meth c A ls hx hb hr hml hown hts hlk hK hE hA hP hD hS hl
  have hl : lv_has ls 2 [(0, .ref (ad 100)), (1, .int a1)] := hl
  unfold f_Model_at at hM
  refine lv_iload_n hx hb dX8_at_0 rfl (lv_at hl 1 rfl) ?_
  refine lv_aload_n hx hb dX8_at_1 rfl (lv_at hl 0 rfl) ?_
  refine va_get (D := D) (ci := 8) (v := .int o_X.1) (C := RX8) (T := TX8) (N := 48) hx hb hts layX8 hown hK hP 0 rfl rfl 4 (by decide) (hts _ (inA q982)) (fun _ h9 => h9) rfl dX8_at_2 ?_
  refine lv_icmp_ge (tgt := 17) hx hb dX8_at_5 (by decide) (fun c1 => ?_) (fun c1 => ?_)
  · replace hM := if_t c1 hM
    refine lv_iconst (v := (-1)) hx hb dX8_at_17 (by decide) ?_
    cases hM
    exact rt_i hx hb hr hlk hP hD hS rfl dX8_at_18
  · replace hM := if_f c1 hM
    refine lv_aload_n hx hb dX8_at_8 rfl (lv_at hl 0 rfl) ?_
    refine va_get (D := D) (ci := 8) (v := .ref (ad 105)) (C := RX8) (T := TX8) (N := 48) hx hb hts layX8 hown hK hP 0 rfl rfl 5 (by decide) (hts _ (inA q983)) (fun _ h9 => h9) rfl dX8_at_9 ?_
    refine lv_iload_n hx hb dX8_at_12 rfl (lv_at hl 1 rfl) ?_
    obtain ⟨b2, hM⟩ := gd_use hM
    refine va_iald hx hb hK hP 1 0 rfl rfl b2 dX8_at_13 ?_
    refine lv_goto (tgt := 18) hx hb dX8_at_14 (by decide) ?_
    cases hM
    exact rt_i hx hb hr hlk hP hD hS rfl dX8_at_18

set_option maxHeartbeats 4000000 in
set_option maxRecDepth 100000 in
theorem c_Model_goesOn (l : Launch) (D : va_G) (cI : ClassId) (sd : Nat → Nat) (ad : Nat → Nat) (o_C : S_MC) (o_L : S_ML) (o_N : S_MN) (o_T : S_MT) (o_U : S_MU) (o_O : S_MO) (o_E : S_ME) (o_Q : S_MQ) (o_V : S_MV) (o_I : S_MI) (o_X : S_MX) (a1 : Int32) (res : Int32) (hM : f_Model_goesOn o_X a1 = some res) : Ctr l D cI sd yX8_goesOn (wsM yX8_goesOn cX8_goesOn 2 (Option.some Jvm.ClassFile.FieldType.boolean)) { frames := 1, cells := 0, slots := 0, locals := 21 } [.ref (ad 100), .int a1] (wM_X cI ad o_X o_L o_N o_T o_U o_O o_E o_Q o_V o_I) (wM_X cI ad o_X o_L o_N o_T o_U o_O o_E o_Q o_V o_I) (some (.int res)) := by
  refine Ctr.of (cc := cX8_goesOn) (maxL := 2) (own := RX8) (by decide +kernel) rfl rfl (Nat.le_of_ble_eq_true rfl) ?_
  intro p e s m below meth c A ls hx hb hr hml hown hts hlk hK hE hA hP hD hS hl
  have hl : lv_has ls 2 [(0, .ref (ad 100)), (1, .int a1)] := hl
  unfold f_Model_goesOn at hM
  refine lv_aload_n hx hb dX8_goesOn_0 rfl (lv_at hl 0 rfl) ?_
  refine lv_iload_n hx hb dX8_goesOn_1 rfl (lv_at hl 1 rfl) ?_
  obtain ⟨r1, hcr1, hM⟩ := ob_use hM
  refine cl_V (As := [.int a1]) (rest := []) (wM_X cI ad o_X o_L o_N o_T o_U o_O o_E o_Q o_V o_I) (.int r1 :: []) ⟨hx, hb, hml, hown, hts⟩ (c_Model_at l D cI sd ad o_C o_L o_N o_T o_U o_O o_E o_Q o_V o_I o_X a1 r1 hcr1) (cwV2 hts q1159 mvX8_at rfl rfl ⟨(Nat.le_of_ble_eq_true rfl), (Nat.le_of_ble_eq_true rfl)⟩) hK hE hA hP hD hS 0 (T := TX8) (N := 48) (ci := 8) rfl rfl [0, 1] rfl (by decide) rfl rfl rfl rfl rfl rfl hl.1 (Nat.le_of_ble_eq_true rfl) dX8_goesOn_2 ⟨Nat.zero_le _, Nat.zero_le _⟩ (fun H locs hP hD hS => ?_)
  obtain ⟨r2, hcr2, hM⟩ := ob_use hM
  refine cl_S (As := [.int r1]) (rest := []) (wM_X cI ad o_X o_L o_N o_T o_U o_O o_E o_Q o_V o_I) (.int r2 :: []) ⟨hx, hb, hml, hown, hts⟩ (c_Model_isLetter l D cI sd ad r1 r2 hcr2) (cwS2 hts q1199 mvX8_isLetter rfl rfl ⟨(Nat.le_of_ble_eq_true rfl), (Nat.le_of_ble_eq_true rfl)⟩) hK hE hA hP hD hS [] rfl (by decide) rfl rfl rfl rfl rfl rfl hl.1 (Nat.le_of_ble_eq_true rfl) dX8_goesOn_5 ⟨Nat.zero_le _, Nat.zero_le _⟩ (fun H locs hP hD hS => ?_)
  refine lv_if_ne (tgt := 22) hx hb dX8_goesOn_8 (by decide) (fun c3 => ?_) (fun c3 => ?_)
  · replace hM := if_f c3 hM
    refine lv_iconst (v := 1) hx hb dX8_goesOn_22 (by decide) ?_
    refine lv_goto (tgt := 27) hx hb dX8_goesOn_23 (by decide) ?_
    cases hM
    exact rt_z hx hb hr hlk (by decide) hP hD hS rfl dX8_goesOn_27
  · replace hM := if_t c3 hM
    refine lv_aload_n hx hb dX8_goesOn_11 rfl (lv_at hl 0 rfl) ?_
    refine lv_iload_n hx hb dX8_goesOn_12 rfl (lv_at hl 1 rfl) ?_
    obtain ⟨r4, hcr4, hM⟩ := ob_use hM
    refine cl_V (As := [.int a1]) (rest := []) (wM_X cI ad o_X o_L o_N o_T o_U o_O o_E o_Q o_V o_I) (.int r4 :: []) ⟨hx, hb, hml, hown, hts⟩ (c_Model_at l D cI sd ad o_C o_L o_N o_T o_U o_O o_E o_Q o_V o_I o_X a1 r4 hcr4) (cwV2 hts q1159 mvX8_at rfl rfl ⟨(Nat.le_of_ble_eq_true rfl), (Nat.le_of_ble_eq_true rfl)⟩) hK hE hA hP hD hS 0 (T := TX8) (N := 48) (ci := 8) rfl rfl [0, 1] rfl (by decide) rfl rfl rfl rfl rfl rfl hl.1 (Nat.le_of_ble_eq_true rfl) dX8_goesOn_13 ⟨Nat.zero_le _, Nat.zero_le _⟩ (fun H locs hP hD hS => ?_)
    obtain ⟨r5, hcr5, hM⟩ := ob_use hM
    refine cl_S (As := [.int r4]) (rest := []) (wM_X cI ad o_X o_L o_N o_T o_U o_O o_E o_Q o_V o_I) (.int r5 :: []) ⟨hx, hb, hml, hown, hts⟩ (c_Model_isDigit l D cI sd ad r4 r5 hcr5) (cwS2 hts q1181 mvX8_isDigit rfl rfl ⟨(Nat.le_of_ble_eq_true rfl), (Nat.le_of_ble_eq_true rfl)⟩) hK hE hA hP hD hS [] rfl (by decide) rfl rfl rfl rfl rfl rfl hl.1 (Nat.le_of_ble_eq_true rfl) dX8_goesOn_16 ⟨Nat.zero_le _, Nat.zero_le _⟩ (fun H locs hP hD hS => ?_)
    refine lv_if_eq (tgt := 26) hx hb dX8_goesOn_19 (by decide) (fun c6 => ?_) (fun c6 => ?_)
    · replace hM := if_t c6 hM
      refine lv_iconst (v := 0) hx hb dX8_goesOn_26 (by decide) ?_
      cases hM
      exact rt_z hx hb hr hlk (by decide) hP hD hS rfl dX8_goesOn_27
    · replace hM := if_f c6 hM
      refine lv_iconst (v := 1) hx hb dX8_goesOn_22 (by decide) ?_
      refine lv_goto (tgt := 27) hx hb dX8_goesOn_23 (by decide) ?_
      cases hM
      exact rt_z hx hb hr hlk (by decide) hP hD hS rfl dX8_goesOn_27

set_option maxHeartbeats 4000000 in
set_option maxRecDepth 100000 in
theorem c_Model_clear (l : Launch) (D : va_G) (cI : ClassId) (sd : Nat → Nat) (ad : Nat → Nat) (o_C : S_MC) (o_L : S_ML) (o_N : S_MN) (o_T : S_MT) (o_U : S_MU) (o_O : S_MO) (o_E : S_ME) (o_Q : S_MQ) (o_V : S_MV) (o_I : S_MI) (o_X : S_MX) (res : Int32 × S_MX) (hM : f_Model_clear o_X = some res) : Ctr l D cI sd yX8_clear (wsM yX8_clear cX8_clear 2 (Option.some Jvm.ClassFile.FieldType.int)) { frames := 0, cells := 0, slots := 0, locals := 0 } [.ref (ad 100)] (wM_X cI ad o_X o_L o_N o_T o_U o_O o_E o_Q o_V o_I) (wM_X cI ad res.2 o_L o_N o_T o_U o_O o_E o_Q o_V o_I) (some (.int res.1)) := by
  refine Ctr.of (cc := cX8_clear) (maxL := 2) (own := RX8) (by decide +kernel) rfl rfl (Nat.le_of_ble_eq_true rfl) ?_
  intro p e s m below meth c A ls hx hb hr hml hown hts hlk hK hE hA hP hD hS hl
  have hl : lv_has ls 2 [(0, .ref (ad 100))] := hl
  unfold f_Model_clear at hM
  refine lv_aload_n hx hb dX8_clear_0 rfl (lv_at hl 0 rfl) ?_
  refine va_get (D := D) (ci := 8) (v := .int o_X.1) (C := RX8) (T := TX8) (N := 48) hx hb hts layX8 hown hK hP 0 rfl rfl 4 (by decide) (hts _ (inA q982)) (fun _ h9 => h9) rfl dX8_clear_1 ?_
  refine lv_istore_n (lv' := [(1, .int o_X.1), (0, .ref (ad 100))]) hx hb dX8_clear_4 rfl hl (by decide) rfl (fun ls hl => ?_)
  refine lv_aload_n hx hb dX8_clear_5 rfl (lv_at hl 1 rfl) ?_
  refine lv_iconst (v := 0) hx hb dX8_clear_6 (by decide) ?_
  refine va_put (D := D) (ci := 8) (v := .int 0) (ty := .int) (C := RX8) (T := TX8) (N := 48) hx hb hts layX8 tyX8 tyX8_ok nmX8 hown hK hP hD hS 0 rfl rfl 4 (by decide) (hts _ (inA q982)) (fun _ h9 => h9) rfl (by decide +kernel) rfl rfl (Nat.le_of_ble_eq_true rfl) dX8_clear_7 (fun H locs hP hD hS => ?_)
  have hP : va_P D vwCl (wM_X cI ad (0, o_X.2) o_L o_N o_T o_U o_O o_E o_Q o_V o_I) H := hP
  have hD : va_D A (wM_X cI ad (0, o_X.2) o_L o_N o_T o_U o_O o_E o_Q o_V o_I) := hD
  refine lv_iload_n hx hb dX8_clear_10 rfl (lv_at hl 0 rfl) ?_
  cases hM
  exact rt_i hx hb hr hlk hP hD hS rfl dX8_clear_11

set_option maxHeartbeats 4000000 in
set_option maxRecDepth 100000 in
theorem c_Model_feed (l : Launch) (D : va_G) (cI : ClassId) (sd : Nat → Nat) (ad : Nat → Nat) (o_C : S_MC) (o_L : S_ML) (o_N : S_MN) (o_T : S_MT) (o_U : S_MU) (o_O : S_MO) (o_E : S_ME) (o_Q : S_MQ) (o_V : S_MV) (o_I : S_MI) (o_X : S_MX) (a1 : Int32) (a2 : Int32) (a3 : Int32) (a4 : Int32) (a5 : Int32) (res : Int32 × S_MX) (hM : f_Model_feed o_X a1 a2 a3 a4 a5 = some res) : Ctr l D cI sd yX8_feed (wsM yX8_feed cX8_feed 8 (Option.some Jvm.ClassFile.FieldType.int)) { frames := 0, cells := 0, slots := 0, locals := 0 } [.ref (ad 100), .int a1, .int a2, .int a3, .int a4, .int a5] (wM_X cI ad o_X o_L o_N o_T o_U o_O o_E o_Q o_V o_I) (wM_X cI ad res.2 o_L o_N o_T o_U o_O o_E o_Q o_V o_I) (some (.int res.1)) := by
  refine Ctr.of (cc := cX8_feed) (maxL := 8) (own := RX8) (by decide +kernel) rfl rfl (Nat.le_of_ble_eq_true rfl) ?_
  intro p e s m below meth c A ls hx hb hr hml hown hts hlk hK hE hA hP hD hS hl
  have hl : lv_has ls 8 [(0, .ref (ad 100)), (1, .int a1), (2, .int a2), (3, .int a3), (4, .int a4), (5, .int a5)] := hl
  unfold f_Model_feed at hM
  refine lv_aload_n hx hb dX8_feed_0 rfl (lv_at hl 0 rfl) ?_
  refine va_get (D := D) (ci := 8) (v := .int o_X.1) (C := RX8) (T := TX8) (N := 48) hx hb hts layX8 hown hK hP 0 rfl rfl 4 (by decide) (hts _ (inA q982)) (fun _ h9 => h9) rfl dX8_feed_1 ?_
  refine lv_bipush (v := 20) hx hb dX8_feed_4 (by decide) ?_
  refine lv_iadd hx hb dX8_feed_6 ?_
  refine lv_sipush (v := 8192) hx hb dX8_feed_7 (by decide) ?_
  refine lv_icmp_le (tgt := 15) hx hb dX8_feed_10 (by decide) (fun c1 => ?_) (fun c1 => ?_)
  · replace hM := if_t c1 hM
    refine lv_iconst (v := 0) hx hb dX8_feed_15 (by decide) ?_
    refine lv_istore (lv' := [(6, .int 0), (0, .ref (ad 100)), (1, .int a1), (2, .int a2), (3, .int a3), (4, .int a4), (5, .int a5)]) hx hb dX8_feed_16 hl (by decide) rfl (fun ls hl => ?_)
    have lp_L18 : ∀ (w1_L18 : Int32) (w2_L18 : Int32) (w3_L18 : Int32) (w4_L18 : Int32) (w5_L18 : Int32) (n : Nat) (v6_L18 : Int32) (o_X_L18 : S_MX) (out_L18 : S_MX) (H : Heap) (locs : List Loc) (ls : Array Slot), f_Model_feed_L18 w1_L18 w2_L18 w3_L18 w4_L18 w5_L18 n v6_L18 o_X_L18 = some out_L18 → va_P D vwCl (wM_X cI ad o_X_L18 o_L o_N o_T o_U o_O o_E o_Q o_V o_I) H → va_D A (wM_X cI ad o_X_L18 o_L o_N o_T o_U o_O o_E o_Q o_V o_I) → va_S A s.heap H locs → lv_has ls 8 [(6, .int v6_L18), (0, .ref (ad 100)), (1, .int w1_L18), (2, .int w2_L18), (3, .int w3_L18), (4, .int w4_L18), (5, .int w5_L18)] → (∀ (H : Heap) (locs : List Loc) (ls : Array Slot), va_P D vwCl (wM_X cI ad out_L18 o_L o_N o_T o_U o_O o_E o_Q o_V o_I) H → va_D A (wM_X cI ad out_L18 o_L o_N o_T o_U o_O o_E o_Q o_V o_I) → va_S A s.heap H locs → lv_has ls 8 [(0, .ref (ad 100)), (1, .int w1_L18), (2, .int w2_L18), (3, .int w3_L18), (4, .int w4_L18), (5, .int w5_L18)] → W p l e { frames := 0, cells := 0, slots := 0, locals := 0 } s m [.ref (ad 100), .int a1, .int a2, .int a3, .int a4, .int a5].toArray below meth c H locs 0 0 (MQ below (CQ D A (wM_X cI ad res.2 o_L o_N o_T o_U o_O o_E o_Q o_V o_I) (some (.int res.1))) [.ref (ad 100), .int a1, .int a2, .int a3, .int a4, .int a5].toArray s 0 0 A) (F0 m 108 ls [])) → W p l e { frames := 0, cells := 0, slots := 0, locals := 0 } s m [.ref (ad 100), .int a1, .int a2, .int a3, .int a4, .int a5].toArray below meth c H locs 0 0 (MQ below (CQ D A (wM_X cI ad res.2 o_L o_N o_T o_U o_O o_E o_Q o_V o_I) (some (.int res.1))) [.ref (ad 100), .int a1, .int a2, .int a3, .int a4, .int a5].toArray s 0 0 A) (F0 m 18 ls []) := by
      intro w1_L18 w2_L18 w3_L18 w4_L18 w5_L18 n
      induction n with
      | zero => intro v6_L18 o_X_L18 out_L18 H locs ls hM; exact absurd (show none = some _ from hM) (by simp)
      | succ n ih_L18 =>
        intro v6_L18 o_X_L18 out_L18 H locs ls hM hP hD hS hl kx_L18
        rw [f_Model_feed_L18] at hM
        refine lv_iload hx hb dX8_feed_18 (lv_at hl 0 rfl) ?_
        refine lv_bipush (v := 20) hx hb dX8_feed_20 (by decide) ?_
        refine lv_icmp_ge (tgt := 108) hx hb dX8_feed_22 (by decide) (fun c1281 => ?_) (fun c1281 => ?_)
        · replace hM := if_t c1281 hM
          cases hM
          exact kx_L18 _ _ _ hP hD hS (lv_sub hl [1, 2, 3, 4, 5, 6] rfl)
        · replace hM := if_f c1281 hM
          refine lv_iload hx hb dX8_feed_25 (lv_at hl 0 rfl) ?_
          refine lv_iconst (v := 4) hx hb dX8_feed_27 (by decide) ?_
          refine lv_icmp_ge (tgt := 35) hx hb dX8_feed_28 (by decide) (fun c1282 => ?_) (fun c1282 => ?_)
          · replace hM := if_t c1282 hM
            refine lv_iload hx hb dX8_feed_35 (lv_at hl 0 rfl) ?_
            refine lv_bipush (v := 8) hx hb dX8_feed_37 (by decide) ?_
            refine lv_icmp_ge (tgt := 46) hx hb dX8_feed_39 (by decide) (fun c1283 => ?_) (fun c1283 => ?_)
            · replace hM := if_t c1283 hM
              refine lv_iload hx hb dX8_feed_46 (lv_at hl 0 rfl) ?_
              refine lv_bipush (v := 12) hx hb dX8_feed_48 (by decide) ?_
              refine lv_icmp_ge (tgt := 57) hx hb dX8_feed_50 (by decide) (fun c1284 => ?_) (fun c1284 => ?_)
              · replace hM := if_t c1284 hM
                refine lv_iload hx hb dX8_feed_57 (lv_at hl 0 rfl) ?_
                refine lv_bipush (v := 16) hx hb dX8_feed_59 (by decide) ?_
                refine lv_icmp_ge (tgt := 69) hx hb dX8_feed_61 (by decide) (fun c1285 => ?_) (fun c1285 => ?_)
                · replace hM := if_t c1285 hM
                  refine lv_iload hx hb dX8_feed_69 (lv_at hl 6 rfl) ?_
                  refine lv_istore (lv' := [(7, .int w5_L18), (6, .int v6_L18), (0, .ref (ad 100)), (1, .int w1_L18), (2, .int w2_L18), (3, .int w3_L18), (4, .int w4_L18), (5, .int w5_L18)]) hx hb dX8_feed_71 hl (by decide) rfl (fun ls hl => ?_)
                  refine lv_aload_n hx hb dX8_feed_73 rfl (lv_at hl 2 rfl) ?_
                  refine va_get (D := D) (ci := 8) (v := .ref (ad 105)) (C := RX8) (T := TX8) (N := 48) hx hb hts layX8 hown hK hP 0 rfl rfl 5 (by decide) (hts _ (inA q983)) (fun _ h9 => h9) rfl dX8_feed_74 ?_
                  refine lv_aload_n hx hb dX8_feed_77 rfl (lv_at hl 2 rfl) ?_
                  refine va_get (D := D) (ci := 8) (v := .int o_X_L18.1) (C := RX8) (T := TX8) (N := 48) hx hb hts layX8 hown hK hP 0 rfl rfl 4 (by decide) (hts _ (inA q982)) (fun _ h9 => h9) rfl dX8_feed_78 ?_
                  refine lv_iload hx hb dX8_feed_81 (lv_at hl 1 rfl) ?_
                  refine lv_iadd hx hb dX8_feed_83 ?_
                  refine lv_iload hx hb dX8_feed_84 (lv_at hl 0 rfl) ?_
                  refine lv_bipush (v := 24) hx hb dX8_feed_86 (by decide) ?_
                  refine lv_bipush (v := 8) hx hb dX8_feed_88 (by decide) ?_
                  refine lv_iload hx hb dX8_feed_90 (lv_at hl 1 rfl) ?_
                  refine lv_iconst (v := 4) hx hb dX8_feed_92 (by decide) ?_
                  refine lv_irem hx hb dX8_feed_93 (by decide) ?_
                  refine lv_imul hx hb dX8_feed_94 ?_
                  refine lv_isub hx hb dX8_feed_95 ?_
                  refine lv_ishr hx hb dX8_feed_96 ?_
                  refine lv_sipush (v := 255) hx hb dX8_feed_97 (by decide) ?_
                  refine lv_iand hx hb dX8_feed_100 ?_
                  refine lv_topi (fun x1287 ex1287 => ?_)
                  replace hM := nm_use ex1287 hM
                  obtain ⟨b1286, hM⟩ := gd_use hM
                  refine va_iast hx hb hK hP hD hS 1 0 rfl rfl b1286 dX8_feed_101 (fun H locs hP hD hS => ?_)
                  have hP : va_P D vwCl (wM_X cI ad (o_X_L18.1, upd o_X_L18.2 (o_X_L18.1 + v6_L18).toNatClampNeg x1287) o_L o_N o_T o_U o_O o_E o_Q o_V o_I) H := hP
                  have hD : va_D A (wM_X cI ad (o_X_L18.1, upd o_X_L18.2 (o_X_L18.1 + v6_L18).toNatClampNeg x1287) o_L o_N o_T o_U o_O o_E o_Q o_V o_I) := hD
                  obtain ⟨x1288, ex1288⟩ : ∃ y : Int32, y = v6_L18 + 1 := ⟨_, rfl⟩
                  replace hM := nm_use ex1288 hM
                  refine lv_iinc (v := x1288) (lv' := [(6, .int x1288), (7, .int w5_L18), (0, .ref (ad 100)), (1, .int w1_L18), (2, .int w2_L18), (3, .int w3_L18), (4, .int w4_L18), (5, .int w5_L18)]) hx hb dX8_feed_102 hl (k := 1) rfl (by rw [ex1288]; rfl) (by decide) rfl (fun ls hl => ?_)
                  refine lv_goto (tgt := 18) hx hb dX8_feed_105 (by decide) ?_
                  exact ih_L18 x1288 (o_X_L18.1, upd o_X_L18.2 (o_X_L18.1 + v6_L18).toNatClampNeg x1287) out_L18 _ _ _ hM hP hD hS (lv_sub hl [0, 2, 3, 4, 5, 6, 7] rfl) kx_L18
                · replace hM := if_f c1285 hM
                  refine lv_iload hx hb dX8_feed_64 (lv_at hl 5 rfl) ?_
                  refine lv_goto (tgt := 71) hx hb dX8_feed_66 (by decide) ?_
                  refine lv_istore (lv' := [(7, .int w4_L18), (6, .int v6_L18), (0, .ref (ad 100)), (1, .int w1_L18), (2, .int w2_L18), (3, .int w3_L18), (4, .int w4_L18), (5, .int w5_L18)]) hx hb dX8_feed_71 hl (by decide) rfl (fun ls hl => ?_)
                  refine lv_aload_n hx hb dX8_feed_73 rfl (lv_at hl 2 rfl) ?_
                  refine va_get (D := D) (ci := 8) (v := .ref (ad 105)) (C := RX8) (T := TX8) (N := 48) hx hb hts layX8 hown hK hP 0 rfl rfl 5 (by decide) (hts _ (inA q983)) (fun _ h9 => h9) rfl dX8_feed_74 ?_
                  refine lv_aload_n hx hb dX8_feed_77 rfl (lv_at hl 2 rfl) ?_
                  refine va_get (D := D) (ci := 8) (v := .int o_X_L18.1) (C := RX8) (T := TX8) (N := 48) hx hb hts layX8 hown hK hP 0 rfl rfl 4 (by decide) (hts _ (inA q982)) (fun _ h9 => h9) rfl dX8_feed_78 ?_
                  refine lv_iload hx hb dX8_feed_81 (lv_at hl 1 rfl) ?_
                  refine lv_iadd hx hb dX8_feed_83 ?_
                  refine lv_iload hx hb dX8_feed_84 (lv_at hl 0 rfl) ?_
                  refine lv_bipush (v := 24) hx hb dX8_feed_86 (by decide) ?_
                  refine lv_bipush (v := 8) hx hb dX8_feed_88 (by decide) ?_
                  refine lv_iload hx hb dX8_feed_90 (lv_at hl 1 rfl) ?_
                  refine lv_iconst (v := 4) hx hb dX8_feed_92 (by decide) ?_
                  refine lv_irem hx hb dX8_feed_93 (by decide) ?_
                  refine lv_imul hx hb dX8_feed_94 ?_
                  refine lv_isub hx hb dX8_feed_95 ?_
                  refine lv_ishr hx hb dX8_feed_96 ?_
                  refine lv_sipush (v := 255) hx hb dX8_feed_97 (by decide) ?_
                  refine lv_iand hx hb dX8_feed_100 ?_
                  refine lv_topi (fun x1290 ex1290 => ?_)
                  replace hM := nm_use ex1290 hM
                  obtain ⟨b1289, hM⟩ := gd_use hM
                  refine va_iast hx hb hK hP hD hS 1 0 rfl rfl b1289 dX8_feed_101 (fun H locs hP hD hS => ?_)
                  have hP : va_P D vwCl (wM_X cI ad (o_X_L18.1, upd o_X_L18.2 (o_X_L18.1 + v6_L18).toNatClampNeg x1290) o_L o_N o_T o_U o_O o_E o_Q o_V o_I) H := hP
                  have hD : va_D A (wM_X cI ad (o_X_L18.1, upd o_X_L18.2 (o_X_L18.1 + v6_L18).toNatClampNeg x1290) o_L o_N o_T o_U o_O o_E o_Q o_V o_I) := hD
                  obtain ⟨x1291, ex1291⟩ : ∃ y : Int32, y = v6_L18 + 1 := ⟨_, rfl⟩
                  replace hM := nm_use ex1291 hM
                  refine lv_iinc (v := x1291) (lv' := [(6, .int x1291), (7, .int w4_L18), (0, .ref (ad 100)), (1, .int w1_L18), (2, .int w2_L18), (3, .int w3_L18), (4, .int w4_L18), (5, .int w5_L18)]) hx hb dX8_feed_102 hl (k := 1) rfl (by rw [ex1291]; rfl) (by decide) rfl (fun ls hl => ?_)
                  refine lv_goto (tgt := 18) hx hb dX8_feed_105 (by decide) ?_
                  exact ih_L18 x1291 (o_X_L18.1, upd o_X_L18.2 (o_X_L18.1 + v6_L18).toNatClampNeg x1290) out_L18 _ _ _ hM hP hD hS (lv_sub hl [0, 2, 3, 4, 5, 6, 7] rfl) kx_L18
              · replace hM := if_f c1284 hM
                refine lv_iload_n hx hb dX8_feed_53 rfl (lv_at hl 4 rfl) ?_
                refine lv_goto (tgt := 71) hx hb dX8_feed_54 (by decide) ?_
                refine lv_istore (lv' := [(7, .int w3_L18), (6, .int v6_L18), (0, .ref (ad 100)), (1, .int w1_L18), (2, .int w2_L18), (3, .int w3_L18), (4, .int w4_L18), (5, .int w5_L18)]) hx hb dX8_feed_71 hl (by decide) rfl (fun ls hl => ?_)
                refine lv_aload_n hx hb dX8_feed_73 rfl (lv_at hl 2 rfl) ?_
                refine va_get (D := D) (ci := 8) (v := .ref (ad 105)) (C := RX8) (T := TX8) (N := 48) hx hb hts layX8 hown hK hP 0 rfl rfl 5 (by decide) (hts _ (inA q983)) (fun _ h9 => h9) rfl dX8_feed_74 ?_
                refine lv_aload_n hx hb dX8_feed_77 rfl (lv_at hl 2 rfl) ?_
                refine va_get (D := D) (ci := 8) (v := .int o_X_L18.1) (C := RX8) (T := TX8) (N := 48) hx hb hts layX8 hown hK hP 0 rfl rfl 4 (by decide) (hts _ (inA q982)) (fun _ h9 => h9) rfl dX8_feed_78 ?_
                refine lv_iload hx hb dX8_feed_81 (lv_at hl 1 rfl) ?_
                refine lv_iadd hx hb dX8_feed_83 ?_
                refine lv_iload hx hb dX8_feed_84 (lv_at hl 0 rfl) ?_
                refine lv_bipush (v := 24) hx hb dX8_feed_86 (by decide) ?_
                refine lv_bipush (v := 8) hx hb dX8_feed_88 (by decide) ?_
                refine lv_iload hx hb dX8_feed_90 (lv_at hl 1 rfl) ?_
                refine lv_iconst (v := 4) hx hb dX8_feed_92 (by decide) ?_
                refine lv_irem hx hb dX8_feed_93 (by decide) ?_
                refine lv_imul hx hb dX8_feed_94 ?_
                refine lv_isub hx hb dX8_feed_95 ?_
                refine lv_ishr hx hb dX8_feed_96 ?_
                refine lv_sipush (v := 255) hx hb dX8_feed_97 (by decide) ?_
                refine lv_iand hx hb dX8_feed_100 ?_
                refine lv_topi (fun x1293 ex1293 => ?_)
                replace hM := nm_use ex1293 hM
                obtain ⟨b1292, hM⟩ := gd_use hM
                refine va_iast hx hb hK hP hD hS 1 0 rfl rfl b1292 dX8_feed_101 (fun H locs hP hD hS => ?_)
                have hP : va_P D vwCl (wM_X cI ad (o_X_L18.1, upd o_X_L18.2 (o_X_L18.1 + v6_L18).toNatClampNeg x1293) o_L o_N o_T o_U o_O o_E o_Q o_V o_I) H := hP
                have hD : va_D A (wM_X cI ad (o_X_L18.1, upd o_X_L18.2 (o_X_L18.1 + v6_L18).toNatClampNeg x1293) o_L o_N o_T o_U o_O o_E o_Q o_V o_I) := hD
                obtain ⟨x1294, ex1294⟩ : ∃ y : Int32, y = v6_L18 + 1 := ⟨_, rfl⟩
                replace hM := nm_use ex1294 hM
                refine lv_iinc (v := x1294) (lv' := [(6, .int x1294), (7, .int w3_L18), (0, .ref (ad 100)), (1, .int w1_L18), (2, .int w2_L18), (3, .int w3_L18), (4, .int w4_L18), (5, .int w5_L18)]) hx hb dX8_feed_102 hl (k := 1) rfl (by rw [ex1294]; rfl) (by decide) rfl (fun ls hl => ?_)
                refine lv_goto (tgt := 18) hx hb dX8_feed_105 (by decide) ?_
                exact ih_L18 x1294 (o_X_L18.1, upd o_X_L18.2 (o_X_L18.1 + v6_L18).toNatClampNeg x1293) out_L18 _ _ _ hM hP hD hS (lv_sub hl [0, 2, 3, 4, 5, 6, 7] rfl) kx_L18
            · replace hM := if_f c1283 hM
              refine lv_iload_n hx hb dX8_feed_42 rfl (lv_at hl 3 rfl) ?_
              refine lv_goto (tgt := 71) hx hb dX8_feed_43 (by decide) ?_
              refine lv_istore (lv' := [(7, .int w2_L18), (6, .int v6_L18), (0, .ref (ad 100)), (1, .int w1_L18), (2, .int w2_L18), (3, .int w3_L18), (4, .int w4_L18), (5, .int w5_L18)]) hx hb dX8_feed_71 hl (by decide) rfl (fun ls hl => ?_)
              refine lv_aload_n hx hb dX8_feed_73 rfl (lv_at hl 2 rfl) ?_
              refine va_get (D := D) (ci := 8) (v := .ref (ad 105)) (C := RX8) (T := TX8) (N := 48) hx hb hts layX8 hown hK hP 0 rfl rfl 5 (by decide) (hts _ (inA q983)) (fun _ h9 => h9) rfl dX8_feed_74 ?_
              refine lv_aload_n hx hb dX8_feed_77 rfl (lv_at hl 2 rfl) ?_
              refine va_get (D := D) (ci := 8) (v := .int o_X_L18.1) (C := RX8) (T := TX8) (N := 48) hx hb hts layX8 hown hK hP 0 rfl rfl 4 (by decide) (hts _ (inA q982)) (fun _ h9 => h9) rfl dX8_feed_78 ?_
              refine lv_iload hx hb dX8_feed_81 (lv_at hl 1 rfl) ?_
              refine lv_iadd hx hb dX8_feed_83 ?_
              refine lv_iload hx hb dX8_feed_84 (lv_at hl 0 rfl) ?_
              refine lv_bipush (v := 24) hx hb dX8_feed_86 (by decide) ?_
              refine lv_bipush (v := 8) hx hb dX8_feed_88 (by decide) ?_
              refine lv_iload hx hb dX8_feed_90 (lv_at hl 1 rfl) ?_
              refine lv_iconst (v := 4) hx hb dX8_feed_92 (by decide) ?_
              refine lv_irem hx hb dX8_feed_93 (by decide) ?_
              refine lv_imul hx hb dX8_feed_94 ?_
              refine lv_isub hx hb dX8_feed_95 ?_
              refine lv_ishr hx hb dX8_feed_96 ?_
              refine lv_sipush (v := 255) hx hb dX8_feed_97 (by decide) ?_
              refine lv_iand hx hb dX8_feed_100 ?_
              refine lv_topi (fun x1296 ex1296 => ?_)
              replace hM := nm_use ex1296 hM
              obtain ⟨b1295, hM⟩ := gd_use hM
              refine va_iast hx hb hK hP hD hS 1 0 rfl rfl b1295 dX8_feed_101 (fun H locs hP hD hS => ?_)
              have hP : va_P D vwCl (wM_X cI ad (o_X_L18.1, upd o_X_L18.2 (o_X_L18.1 + v6_L18).toNatClampNeg x1296) o_L o_N o_T o_U o_O o_E o_Q o_V o_I) H := hP
              have hD : va_D A (wM_X cI ad (o_X_L18.1, upd o_X_L18.2 (o_X_L18.1 + v6_L18).toNatClampNeg x1296) o_L o_N o_T o_U o_O o_E o_Q o_V o_I) := hD
              obtain ⟨x1297, ex1297⟩ : ∃ y : Int32, y = v6_L18 + 1 := ⟨_, rfl⟩
              replace hM := nm_use ex1297 hM
              refine lv_iinc (v := x1297) (lv' := [(6, .int x1297), (7, .int w2_L18), (0, .ref (ad 100)), (1, .int w1_L18), (2, .int w2_L18), (3, .int w3_L18), (4, .int w4_L18), (5, .int w5_L18)]) hx hb dX8_feed_102 hl (k := 1) rfl (by rw [ex1297]; rfl) (by decide) rfl (fun ls hl => ?_)
              refine lv_goto (tgt := 18) hx hb dX8_feed_105 (by decide) ?_
              exact ih_L18 x1297 (o_X_L18.1, upd o_X_L18.2 (o_X_L18.1 + v6_L18).toNatClampNeg x1296) out_L18 _ _ _ hM hP hD hS (lv_sub hl [0, 2, 3, 4, 5, 6, 7] rfl) kx_L18
          · replace hM := if_f c1282 hM
            refine lv_iload_n hx hb dX8_feed_31 rfl (lv_at hl 2 rfl) ?_
            refine lv_goto (tgt := 71) hx hb dX8_feed_32 (by decide) ?_
            refine lv_istore (lv' := [(7, .int w1_L18), (6, .int v6_L18), (0, .ref (ad 100)), (1, .int w1_L18), (2, .int w2_L18), (3, .int w3_L18), (4, .int w4_L18), (5, .int w5_L18)]) hx hb dX8_feed_71 hl (by decide) rfl (fun ls hl => ?_)
            refine lv_aload_n hx hb dX8_feed_73 rfl (lv_at hl 2 rfl) ?_
            refine va_get (D := D) (ci := 8) (v := .ref (ad 105)) (C := RX8) (T := TX8) (N := 48) hx hb hts layX8 hown hK hP 0 rfl rfl 5 (by decide) (hts _ (inA q983)) (fun _ h9 => h9) rfl dX8_feed_74 ?_
            refine lv_aload_n hx hb dX8_feed_77 rfl (lv_at hl 2 rfl) ?_
            refine va_get (D := D) (ci := 8) (v := .int o_X_L18.1) (C := RX8) (T := TX8) (N := 48) hx hb hts layX8 hown hK hP 0 rfl rfl 4 (by decide) (hts _ (inA q982)) (fun _ h9 => h9) rfl dX8_feed_78 ?_
            refine lv_iload hx hb dX8_feed_81 (lv_at hl 1 rfl) ?_
            refine lv_iadd hx hb dX8_feed_83 ?_
            refine lv_iload hx hb dX8_feed_84 (lv_at hl 0 rfl) ?_
            refine lv_bipush (v := 24) hx hb dX8_feed_86 (by decide) ?_
            refine lv_bipush (v := 8) hx hb dX8_feed_88 (by decide) ?_
            refine lv_iload hx hb dX8_feed_90 (lv_at hl 1 rfl) ?_
            refine lv_iconst (v := 4) hx hb dX8_feed_92 (by decide) ?_
            refine lv_irem hx hb dX8_feed_93 (by decide) ?_
            refine lv_imul hx hb dX8_feed_94 ?_
            refine lv_isub hx hb dX8_feed_95 ?_
            refine lv_ishr hx hb dX8_feed_96 ?_
            refine lv_sipush (v := 255) hx hb dX8_feed_97 (by decide) ?_
            refine lv_iand hx hb dX8_feed_100 ?_
            refine lv_topi (fun x1299 ex1299 => ?_)
            replace hM := nm_use ex1299 hM
            obtain ⟨b1298, hM⟩ := gd_use hM
            refine va_iast hx hb hK hP hD hS 1 0 rfl rfl b1298 dX8_feed_101 (fun H locs hP hD hS => ?_)
            have hP : va_P D vwCl (wM_X cI ad (o_X_L18.1, upd o_X_L18.2 (o_X_L18.1 + v6_L18).toNatClampNeg x1299) o_L o_N o_T o_U o_O o_E o_Q o_V o_I) H := hP
            have hD : va_D A (wM_X cI ad (o_X_L18.1, upd o_X_L18.2 (o_X_L18.1 + v6_L18).toNatClampNeg x1299) o_L o_N o_T o_U o_O o_E o_Q o_V o_I) := hD
            obtain ⟨x1300, ex1300⟩ : ∃ y : Int32, y = v6_L18 + 1 := ⟨_, rfl⟩
            replace hM := nm_use ex1300 hM
            refine lv_iinc (v := x1300) (lv' := [(6, .int x1300), (7, .int w1_L18), (0, .ref (ad 100)), (1, .int w1_L18), (2, .int w2_L18), (3, .int w3_L18), (4, .int w4_L18), (5, .int w5_L18)]) hx hb dX8_feed_102 hl (k := 1) rfl (by rw [ex1300]; rfl) (by decide) rfl (fun ls hl => ?_)
            refine lv_goto (tgt := 18) hx hb dX8_feed_105 (by decide) ?_
            exact ih_L18 x1300 (o_X_L18.1, upd o_X_L18.2 (o_X_L18.1 + v6_L18).toNatClampNeg x1299) out_L18 _ _ _ hM hP hD hS (lv_sub hl [0, 2, 3, 4, 5, 6, 7] rfl) kx_L18
    obtain ⟨r2, hcr2, hM⟩ := ob_use hM
    refine lp_L18 a1 a2 a3 a4 a5 FU 0 o_X r2 _ _ _ hcr2 hP hD hS (lv_sub hl [0, 1, 2, 3, 4, 5, 6] rfl) (fun H locs ls hP hD hS hl => ?_)
    refine lv_aload_n hx hb dX8_feed_108 rfl (lv_at hl 0 rfl) ?_
    refine lv_dup hx hb dX8_feed_109 rfl ?_
    refine va_get (D := D) (ci := 8) (v := .int r2.1) (C := RX8) (T := TX8) (N := 48) hx hb hts layX8 hown hK hP 0 rfl rfl 4 (by decide) (hts _ (inA q982)) (fun _ h9 => h9) rfl dX8_feed_110 ?_
    refine lv_bipush (v := 20) hx hb dX8_feed_113 (by decide) ?_
    refine lv_iadd hx hb dX8_feed_115 ?_
    refine va_put (D := D) (ci := 8) (v := .int (r2.1 + 20)) (ty := .int) (C := RX8) (T := TX8) (N := 48) hx hb hts layX8 tyX8 tyX8_ok nmX8 hown hK hP hD hS 0 rfl rfl 4 (by decide) (hts _ (inA q982)) (fun _ h9 => h9) rfl (by decide +kernel) rfl rfl (Nat.le_of_ble_eq_true rfl) dX8_feed_116 (fun H locs hP hD hS => ?_)
    have hP : va_P D vwCl (wM_X cI ad (r2.1 + 20, r2.2) o_L o_N o_T o_U o_O o_E o_Q o_V o_I) H := hP
    have hD : va_D A (wM_X cI ad (r2.1 + 20, r2.2) o_L o_N o_T o_U o_O o_E o_Q o_V o_I) := hD
    refine lv_aload_n hx hb dX8_feed_119 rfl (lv_at hl 0 rfl) ?_
    refine va_get (D := D) (ci := 8) (v := .int (r2.1 + 20)) (C := RX8) (T := TX8) (N := 48) hx hb hts layX8 hown hK hP 0 rfl rfl 4 (by decide) (hts _ (inA q982)) (fun _ h9 => h9) rfl dX8_feed_120 ?_
    cases hM
    exact rt_i hx hb hr hlk hP hD hS rfl dX8_feed_123
  · replace hM := if_f c1 hM
    refine lv_iconst (v := (-1)) hx hb dX8_feed_13 (by decide) ?_
    cases hM
    exact rt_i hx hb hr hlk hP hD hS rfl dX8_feed_14

set_option maxHeartbeats 4000000 in
set_option maxRecDepth 100000 in
theorem c_Model_end (l : Launch) (D : va_G) (cI : ClassId) (sd : Nat → Nat) (ad : Nat → Nat) (o_C : S_MC) (o_L : S_ML) (o_N : S_MN) (o_T : S_MT) (o_U : S_MU) (o_O : S_MO) (o_E : S_ME) (o_Q : S_MQ) (o_V : S_MV) (o_I : S_MI) (o_X : S_MX) (a1 : Int32) (res : Int32 × S_MX) (hM : f_Model_end o_X a1 = some res) : Ctr l D cI sd yX8_end (wsM yX8_end cX8_end 2 (Option.some Jvm.ClassFile.FieldType.int)) { frames := 0, cells := 0, slots := 0, locals := 0 } [.ref (ad 100), .int a1] (wM_X cI ad o_X o_L o_N o_T o_U o_O o_E o_Q o_V o_I) (wM_X cI ad res.2 o_L o_N o_T o_U o_O o_E o_Q o_V o_I) (some (.int res.1)) := by
  refine Ctr.of (cc := cX8_end) (maxL := 2) (own := RX8) (by decide +kernel) rfl rfl (Nat.le_of_ble_eq_true rfl) ?_
  intro p e s m below meth c A ls hx hb hr hml hown hts hlk hK hE hA hP hD hS hl
  have hl : lv_has ls 2 [(0, .ref (ad 100)), (1, .int a1)] := hl
  unfold f_Model_end at hM
  refine lv_iload_n hx hb dX8_end_0 rfl (lv_at hl 1 rfl) ?_
  refine lv_if_lt (tgt := 19) hx hb dX8_end_1 (by decide) (fun c1 => ?_) (fun c1 => ?_)
  · replace hM := if_t c1 hM
    refine lv_iconst (v := (-1)) hx hb dX8_end_19 (by decide) ?_
    cases hM
    exact rt_i hx hb hr hlk hP hD hS rfl dX8_end_20
  · replace hM := if_f c1 hM
    refine lv_iload_n hx hb dX8_end_4 rfl (lv_at hl 1 rfl) ?_
    refine lv_bipush (v := 20) hx hb dX8_end_5 (by decide) ?_
    refine lv_icmp_gt (tgt := 19) hx hb dX8_end_7 (by decide) (fun c2 => ?_) (fun c2 => ?_)
    · replace hM := if_t c2 hM
      refine lv_iconst (v := (-1)) hx hb dX8_end_19 (by decide) ?_
      cases hM
      exact rt_i hx hb hr hlk hP hD hS rfl dX8_end_20
    · replace hM := if_f c2 hM
      refine lv_aload_n hx hb dX8_end_10 rfl (lv_at hl 0 rfl) ?_
      refine va_get (D := D) (ci := 8) (v := .int o_X.1) (C := RX8) (T := TX8) (N := 48) hx hb hts layX8 hown hK hP 0 rfl rfl 4 (by decide) (hts _ (inA q982)) (fun _ h9 => h9) rfl dX8_end_11 ?_
      refine lv_bipush (v := 20) hx hb dX8_end_14 (by decide) ?_
      refine lv_icmp_ge (tgt := 21) hx hb dX8_end_16 (by decide) (fun c3 => ?_) (fun c3 => ?_)
      · replace hM := if_t c3 hM
        refine lv_aload_n hx hb dX8_end_21 rfl (lv_at hl 0 rfl) ?_
        refine lv_aload_n hx hb dX8_end_22 rfl (lv_at hl 0 rfl) ?_
        refine va_get (D := D) (ci := 8) (v := .int o_X.1) (C := RX8) (T := TX8) (N := 48) hx hb hts layX8 hown hK hP 0 rfl rfl 4 (by decide) (hts _ (inA q982)) (fun _ h9 => h9) rfl dX8_end_23 ?_
        refine lv_bipush (v := 20) hx hb dX8_end_26 (by decide) ?_
        refine lv_isub hx hb dX8_end_28 ?_
        refine lv_iload_n hx hb dX8_end_29 rfl (lv_at hl 1 rfl) ?_
        refine lv_iadd hx hb dX8_end_30 ?_
        refine va_put (D := D) (ci := 8) (v := .int ((o_X.1 - 20) + a1)) (ty := .int) (C := RX8) (T := TX8) (N := 48) hx hb hts layX8 tyX8 tyX8_ok nmX8 hown hK hP hD hS 0 rfl rfl 4 (by decide) (hts _ (inA q982)) (fun _ h9 => h9) rfl (by decide +kernel) rfl rfl (Nat.le_of_ble_eq_true rfl) dX8_end_31 (fun H locs hP hD hS => ?_)
        have hP : va_P D vwCl (wM_X cI ad ((o_X.1 - 20) + a1, o_X.2) o_L o_N o_T o_U o_O o_E o_Q o_V o_I) H := hP
        have hD : va_D A (wM_X cI ad ((o_X.1 - 20) + a1, o_X.2) o_L o_N o_T o_U o_O o_E o_Q o_V o_I) := hD
        refine lv_aload_n hx hb dX8_end_34 rfl (lv_at hl 0 rfl) ?_
        refine va_get (D := D) (ci := 8) (v := .int ((o_X.1 - 20) + a1)) (C := RX8) (T := TX8) (N := 48) hx hb hts layX8 hown hK hP 0 rfl rfl 4 (by decide) (hts _ (inA q982)) (fun _ h9 => h9) rfl dX8_end_35 ?_
        cases hM
        exact rt_i hx hb hr hlk hP hD hS rfl dX8_end_38
      · replace hM := if_f c3 hM
        refine lv_iconst (v := (-1)) hx hb dX8_end_19 (by decide) ?_
        cases hM
        exact rt_i hx hb hr hlk hP hD hS rfl dX8_end_20

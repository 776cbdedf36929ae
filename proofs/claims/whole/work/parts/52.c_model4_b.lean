set_option maxHeartbeats 4000000 in
set_option maxRecDepth 100000 in
theorem c_Model_choices (l : Launch) (D : va_G) (cI : ClassId) (sd : Nat → Nat) (ad : Nat → Nat) (o_C : S_MC) (o_X : S_MX) (o_N : S_MN) (o_O : S_MO) (o_E : S_ME) (o_Q : S_MQ) (o_V : S_MV) (o_I : S_MI) (o_L : S_ML) (o_T : S_MT) (o_U : S_MU) (res : S_MT × S_MU) (hM : f_Model_choices o_L o_T o_U = some res) : Ctr l D cI sd yX8_choices (wsM yX8_choices cX8_choices 1 (Option.none : Option Jvm.ClassFile.FieldType)) { frames := 3, cells := 0, slots := 0, locals := 67 } [.ref (ad 100)] (wM_LTU cI ad o_X o_L o_N o_T o_U o_O o_E o_Q o_V o_I) (wM_LTU cI ad o_X o_L o_N res.1 res.2 o_O o_E o_Q o_V o_I) none := by
  refine Ctr.of (cc := cX8_choices) (maxL := 1) (own := RX8) (by decide +kernel) rfl rfl (Nat.le_of_ble_eq_true rfl) ?_
  intro p e s m below meth c A ls hx hb hr hml hown hts hlk hK hE hA hP hD hS hl
  have hl : lv_has ls 1 [(0, .ref (ad 100))] := hl
  unfold f_Model_choices at hM
  refine lv_aload_n hx hb dX8_choices_0 rfl (lv_at hl 0 rfl) ?_
  obtain ⟨r1, hcr1, hM⟩ := ob_use hM
  refine cl_V (As := []) (rest := []) (wM_LTU cI ad o_X o_L o_N o_T o_U o_O o_E o_Q o_V o_I) (.int r1 :: []) ⟨hx, hb, hml, hown, hts⟩ (c_Model_isConstant l D cI sd ad o_C o_X o_N o_T o_U o_O o_E o_Q o_V o_I o_L r1 hcr1) (cwV2 hts q1353 mvX8_isConstant rfl rfl ⟨(Nat.le_of_ble_eq_true rfl), (Nat.le_of_ble_eq_true rfl)⟩) hK hE hA hP hD hS 0 (T := TX8) (N := 48) (ci := 8) rfl rfl [0] rfl (by decide) rfl rfl rfl rfl rfl rfl hl.1 (Nat.le_of_ble_eq_true rfl) dX8_choices_1 ⟨Nat.zero_le _, Nat.zero_le _⟩ (fun H locs hP hD hS => ?_)
  refine lv_if_eq (tgt := 36) hx hb dX8_choices_4 (by decide) (fun c2 => ?_) (fun c2 => ?_)
  · replace hM := if_t c2 hM
    cases hM
    exact rt_v hx hb hr hlk hP hD hS rfl dX8_choices_36
  · replace hM := if_f c2 hM
    refine lv_aload_n hx hb dX8_choices_7 rfl (lv_at hl 0 rfl) ?_
    refine lv_bipush (v := 17) hx hb dX8_choices_8 (by decide) ?_
    refine lv_aload_n hx hb dX8_choices_10 rfl (lv_at hl 0 rfl) ?_
    refine va_get (D := D) (ci := 8) (v := .int o_L.1) (C := RX8) (T := TX8) (N := 48) hx hb hts layX8 hown hK hP 0 rfl rfl 6 (by decide) (hts _ (inA q984)) (fun _ h9 => h9) rfl dX8_choices_11 ?_
    refine lv_iconst (v := 0) hx hb dX8_choices_14 (by decide) ?_
    obtain ⟨r3, hcr3, hM⟩ := ob_use hM
    refine cl_V (As := [.int 17, .int o_L.1, .int 0]) (rest := []) (wM_LTU cI ad o_X o_L o_N r3 o_U o_O o_E o_Q o_V o_I) [] ⟨hx, hb, hml, hown, hts⟩ (c_Model_down l D cI sd ad o_C o_X o_L o_N o_U o_O o_E o_Q o_V o_I o_T 17 o_L.1 0 r3 hcr3) (cwV2 hts q1245 mvX8_down rfl rfl ⟨(Nat.le_of_ble_eq_true rfl), (Nat.le_of_ble_eq_true rfl)⟩) hK hE hA hP hD hS 0 (T := TX8) (N := 48) (ci := 8) rfl rfl [0, 1, 2, 3, 4, 5, 6, 7] rfl (by decide) (mrgE rfl rfl) rfl rfl rfl rfl rfl hl.1 (Nat.le_of_ble_eq_true rfl) dX8_choices_15 ⟨Nat.zero_le _, Nat.zero_le _⟩ (fun H locs hP hD hS => ?_)
    refine lv_aload_n hx hb dX8_choices_18 rfl (lv_at hl 0 rfl) ?_
    refine lv_bipush (v := 121) hx hb dX8_choices_19 (by decide) ?_
    refine lv_bipush (v := 101) hx hb dX8_choices_21 (by decide) ?_
    refine lv_bipush (v := 122) hx hb dX8_choices_23 (by decide) ?_
    refine lv_bipush (v := 124) hx hb dX8_choices_25 (by decide) ?_
    obtain ⟨r4, hcr4, hM⟩ := ob_use hM
    refine cl_V (As := [.int 121, .int 101, .int 122, .int 124]) (rest := []) (wM_LTU cI ad o_X o_L o_N r3 r4 o_O o_E o_Q o_V o_I) [] ⟨hx, hb, hml, hown, hts⟩ (c_Model_push4 l D cI sd ad o_C o_X o_L o_N r3 o_O o_E o_Q o_V o_I o_U 121 101 122 124 r4 hcr4) (cwV2 hts q1253 mvX8_push4 rfl rfl ⟨(Nat.le_of_ble_eq_true rfl), (Nat.le_of_ble_eq_true rfl)⟩) hK hE hA hP hD hS 0 (T := TX8) (N := 48) (ci := 8) rfl rfl [0, 8] rfl (by decide) rfl rfl rfl rfl rfl rfl hl.1 (Nat.le_of_ble_eq_true rfl) dX8_choices_27 ⟨Nat.zero_le _, Nat.zero_le _⟩ (fun H locs hP hD hS => ?_)
    refine lv_aload_n hx hb dX8_choices_30 rfl (lv_at hl 0 rfl) ?_
    refine lv_bipush (v := 123) hx hb dX8_choices_31 (by decide) ?_
    obtain ⟨r5, hcr5, hM⟩ := ob_use hM
    refine cl_V (As := [.int 123]) (rest := []) (wM_LTU cI ad o_X o_L o_N r3 r5 o_O o_E o_Q o_V o_I) [] ⟨hx, hb, hml, hown, hts⟩ (c_Model_push l D cI sd ad o_C o_X o_L o_N r3 o_O o_E o_Q o_V o_I r4 123 r5 hcr5) (cwV2 hts q1147 mvX8_push rfl rfl ⟨(Nat.le_of_ble_eq_true rfl), (Nat.le_of_ble_eq_true rfl)⟩) hK hE hA hP hD hS 0 (T := TX8) (N := 48) (ci := 8) rfl rfl [0, 8] rfl (by decide) rfl rfl rfl rfl rfl rfl hl.1 (Nat.le_of_ble_eq_true rfl) dX8_choices_33 ⟨Nat.zero_le _, Nat.zero_le _⟩ (fun H locs hP hD hS => ?_)
    cases hM
    exact rt_v hx hb hr hlk hP hD hS rfl dX8_choices_36

set_option maxHeartbeats 4000000 in
set_option maxRecDepth 100000 in
theorem c_Model_range (l : Launch) (D : va_G) (cI : ClassId) (sd : Nat → Nat) (ad : Nat → Nat) (o_C : S_MC) (o_X : S_MX) (o_N : S_MN) (o_O : S_MO) (o_E : S_ME) (o_Q : S_MQ) (o_V : S_MV) (o_I : S_MI) (o_L : S_ML) (o_T : S_MT) (o_U : S_MU) (res : S_MT × S_MU) (hM : f_Model_range o_L o_T o_U = some res) : Ctr l D cI sd yX8_range (wsM yX8_range cX8_range 1 (Option.none : Option Jvm.ClassFile.FieldType)) { frames := 2, cells := 0, slots := 0, locals := 47 } [.ref (ad 100)] (wM_LTU cI ad o_X o_L o_N o_T o_U o_O o_E o_Q o_V o_I) (wM_LTU cI ad o_X o_L o_N res.1 res.2 o_O o_E o_Q o_V o_I) none := by
  refine Ctr.of (cc := cX8_range) (maxL := 1) (own := RX8) (by decide +kernel) rfl rfl (Nat.le_of_ble_eq_true rfl) ?_
  intro p e s m below meth c A ls hx hb hr hml hown hts hlk hK hE hA hP hD hS hl
  have hl : lv_has ls 1 [(0, .ref (ad 100))] := hl
  unfold f_Model_range at hM
  refine lv_aload_n hx hb dX8_range_0 rfl (lv_at hl 0 rfl) ?_
  refine lv_bipush (v := 18) hx hb dX8_range_1 (by decide) ?_
  refine lv_aload_n hx hb dX8_range_3 rfl (lv_at hl 0 rfl) ?_
  refine va_get (D := D) (ci := 8) (v := .int o_L.1) (C := RX8) (T := TX8) (N := 48) hx hb hts layX8 hown hK hP 0 rfl rfl 6 (by decide) (hts _ (inA q984)) (fun _ h9 => h9) rfl dX8_range_4 ?_
  refine lv_iconst (v := 0) hx hb dX8_range_7 (by decide) ?_
  obtain ⟨r1, hcr1, hM⟩ := ob_use hM
  refine cl_V (As := [.int 18, .int o_L.1, .int 0]) (rest := []) (wM_LTU cI ad o_X o_L o_N r1 o_U o_O o_E o_Q o_V o_I) [] ⟨hx, hb, hml, hown, hts⟩ (c_Model_down l D cI sd ad o_C o_X o_L o_N o_U o_O o_E o_Q o_V o_I o_T 18 o_L.1 0 r1 hcr1) (cwV2 hts q1245 mvX8_down rfl rfl ⟨(Nat.le_of_ble_eq_true rfl), (Nat.le_of_ble_eq_true rfl)⟩) hK hE hA hP hD hS 0 (T := TX8) (N := 48) (ci := 8) rfl rfl [0, 1, 2, 3, 4, 5, 6, 7] rfl (by decide) (mrgE rfl rfl) rfl rfl rfl rfl rfl hl.1 (Nat.le_of_ble_eq_true rfl) dX8_range_8 ⟨Nat.zero_le _, Nat.zero_le _⟩ (fun H locs hP hD hS => ?_)
  refine lv_aload_n hx hb dX8_range_11 rfl (lv_at hl 0 rfl) ?_
  refine lv_bipush (v := 101) hx hb dX8_range_12 (by decide) ?_
  refine lv_bipush (v := 125) hx hb dX8_range_14 (by decide) ?_
  obtain ⟨r2, hcr2, hM⟩ := ob_use hM
  refine cl_V (As := [.int 101, .int 125]) (rest := []) (wM_LTU cI ad o_X o_L o_N r1 r2 o_O o_E o_Q o_V o_I) [] ⟨hx, hb, hml, hown, hts⟩ (c_Model_push2 l D cI sd ad o_C o_X o_L o_N r1 o_O o_E o_Q o_V o_I o_U 101 125 r2 hcr2) (cwV2 hts q1257 mvX8_push2 rfl rfl ⟨(Nat.le_of_ble_eq_true rfl), (Nat.le_of_ble_eq_true rfl)⟩) hK hE hA hP hD hS 0 (T := TX8) (N := 48) (ci := 8) rfl rfl [0, 8] rfl (by decide) rfl rfl rfl rfl rfl rfl hl.1 (Nat.le_of_ble_eq_true rfl) dX8_range_16 ⟨Nat.zero_le _, Nat.zero_le _⟩ (fun H locs hP hD hS => ?_)
  refine lv_aload_n hx hb dX8_range_19 rfl (lv_at hl 0 rfl) ?_
  refine lv_bipush (v := 113) hx hb dX8_range_20 (by decide) ?_
  obtain ⟨r3, hcr3, hM⟩ := ob_use hM
  refine cl_V (As := [.int 113]) (rest := []) (wM_LTU cI ad o_X o_L o_N r1 r3 o_O o_E o_Q o_V o_I) [] ⟨hx, hb, hml, hown, hts⟩ (c_Model_push l D cI sd ad o_C o_X o_L o_N r1 o_O o_E o_Q o_V o_I r2 113 r3 hcr3) (cwV2 hts q1147 mvX8_push rfl rfl ⟨(Nat.le_of_ble_eq_true rfl), (Nat.le_of_ble_eq_true rfl)⟩) hK hE hA hP hD hS 0 (T := TX8) (N := 48) (ci := 8) rfl rfl [0, 8] rfl (by decide) rfl rfl rfl rfl rfl rfl hl.1 (Nat.le_of_ble_eq_true rfl) dX8_range_22 ⟨Nat.zero_le _, Nat.zero_le _⟩ (fun H locs hP hD hS => ?_)
  cases hM
  exact rt_v hx hb hr hlk hP hD hS rfl dX8_range_25

set_option maxHeartbeats 4000000 in
set_option maxRecDepth 100000 in
theorem c_Model_putOperand (l : Launch) (D : va_G) (cI : ClassId) (sd : Nat → Nat) (ad : Nat → Nat) (o_C : S_MC) (o_X : S_MX) (o_L : S_ML) (o_N : S_MN) (o_T : S_MT) (o_U : S_MU) (o_O : S_MO) (o_Q : S_MQ) (o_V : S_MV) (o_I : S_MI) (o_E : S_ME) (a1 : Int32) (res : S_ME) (hM : f_Model_putOperand o_E a1 = some res) : Ctr l D cI sd yX8_putOperand (wsM yX8_putOperand cX8_putOperand 2 (Option.none : Option Jvm.ClassFile.FieldType)) { frames := 0, cells := 0, slots := 0, locals := 0 } [.ref (ad 100), .int a1] (wM_E cI ad o_X o_L o_N o_T o_U o_O o_E o_Q o_V o_I) (wM_E cI ad o_X o_L o_N o_T o_U o_O res o_Q o_V o_I) none := by
  refine Ctr.of (cc := cX8_putOperand) (maxL := 2) (own := RX8) (by decide +kernel) rfl rfl (Nat.le_of_ble_eq_true rfl) ?_
  intro p e s m below meth c A ls hx hb hr hml hown hts hlk hK hE hA hP hD hS hl
  have hl : lv_has ls 2 [(0, .ref (ad 100)), (1, .int a1)] := hl
  unfold f_Model_putOperand at hM
  refine lv_aload_n hx hb dX8_putOperand_0 rfl (lv_at hl 0 rfl) ?_
  refine va_get (D := D) (ci := 8) (v := .ref (ad 116)) (C := RX8) (T := TX8) (N := 48) hx hb hts layX8 hown hK hP 0 rfl rfl 34 (by decide) (hts _ (inA q1012)) (fun _ h9 => h9) rfl dX8_putOperand_1 ?_
  refine lv_aload_n hx hb dX8_putOperand_4 rfl (lv_at hl 0 rfl) ?_
  refine va_get (D := D) (ci := 8) (v := .int o_E.1) (C := RX8) (T := TX8) (N := 48) hx hb hts layX8 hown hK hP 0 rfl rfl 33 (by decide) (hts _ (inA q1011)) (fun _ h9 => h9) rfl dX8_putOperand_5 ?_
  refine lv_iload_n hx hb dX8_putOperand_8 rfl (lv_at hl 1 rfl) ?_
  obtain ⟨b1, hM⟩ := gd_use hM
  refine va_iast hx hb hK hP hD hS 1 0 rfl rfl b1 dX8_putOperand_9 (fun H locs hP hD hS => ?_)
  have hP : va_P D vwCl (wM_E cI ad o_X o_L o_N o_T o_U o_O (o_E.1, o_E.2.1, o_E.2.2.1, upd o_E.2.2.2.1 o_E.1.toNatClampNeg a1, o_E.2.2.2.2) o_Q o_V o_I) H := hP
  have hD : va_D A (wM_E cI ad o_X o_L o_N o_T o_U o_O (o_E.1, o_E.2.1, o_E.2.2.1, upd o_E.2.2.2.1 o_E.1.toNatClampNeg a1, o_E.2.2.2.2) o_Q o_V o_I) := hD
  refine lv_aload_n hx hb dX8_putOperand_10 rfl (lv_at hl 0 rfl) ?_
  refine lv_dup hx hb dX8_putOperand_11 rfl ?_
  refine va_get (D := D) (ci := 8) (v := .int o_E.1) (C := RX8) (T := TX8) (N := 48) hx hb hts layX8 hown hK hP 0 rfl rfl 33 (by decide) (hts _ (inA q1011)) (fun _ h9 => h9) rfl dX8_putOperand_12 ?_
  refine lv_iconst (v := 1) hx hb dX8_putOperand_15 (by decide) ?_
  refine lv_iadd hx hb dX8_putOperand_16 ?_
  refine va_put (D := D) (ci := 8) (v := .int (o_E.1 + 1)) (ty := .int) (C := RX8) (T := TX8) (N := 48) hx hb hts layX8 tyX8 tyX8_ok nmX8 hown hK hP hD hS 0 rfl rfl 33 (by decide) (hts _ (inA q1011)) (fun _ h9 => h9) rfl (by decide +kernel) rfl rfl (Nat.le_of_ble_eq_true rfl) dX8_putOperand_17 (fun H locs hP hD hS => ?_)
  have hP : va_P D vwCl (wM_E cI ad o_X o_L o_N o_T o_U o_O (o_E.1 + 1, o_E.2.1, o_E.2.2.1, upd o_E.2.2.2.1 o_E.1.toNatClampNeg a1, o_E.2.2.2.2) o_Q o_V o_I) H := hP
  have hD : va_D A (wM_E cI ad o_X o_L o_N o_T o_U o_O (o_E.1 + 1, o_E.2.1, o_E.2.2.1, upd o_E.2.2.2.1 o_E.1.toNatClampNeg a1, o_E.2.2.2.2) o_Q o_V o_I) := hD
  cases hM
  exact rt_v hx hb hr hlk hP hD hS rfl dX8_putOperand_20

set_option maxHeartbeats 4000000 in
set_option maxRecDepth 100000 in
theorem c_Model_takeOperand (l : Launch) (D : va_G) (cI : ClassId) (sd : Nat → Nat) (ad : Nat → Nat) (o_C : S_MC) (o_X : S_MX) (o_L : S_ML) (o_N : S_MN) (o_T : S_MT) (o_U : S_MU) (o_O : S_MO) (o_Q : S_MQ) (o_V : S_MV) (o_I : S_MI) (o_E : S_ME) (res : Int32 × S_ME) (hM : f_Model_takeOperand o_E = some res) : Ctr l D cI sd yX8_takeOperand (wsM yX8_takeOperand cX8_takeOperand 1 (Option.some Jvm.ClassFile.FieldType.int)) { frames := 0, cells := 0, slots := 0, locals := 0 } [.ref (ad 100)] (wM_E cI ad o_X o_L o_N o_T o_U o_O o_E o_Q o_V o_I) (wM_E cI ad o_X o_L o_N o_T o_U o_O res.2 o_Q o_V o_I) (some (.int res.1)) := by
  refine Ctr.of (cc := cX8_takeOperand) (maxL := 1) (own := RX8) (by decide +kernel) rfl rfl (Nat.le_of_ble_eq_true rfl) ?_
  intro p e s m below meth c A ls hx hb hr hml hown hts hlk hK hE hA hP hD hS hl
  have hl : lv_has ls 1 [(0, .ref (ad 100))] := hl
  unfold f_Model_takeOperand at hM
  refine lv_aload_n hx hb dX8_takeOperand_0 rfl (lv_at hl 0 rfl) ?_
  refine lv_dup hx hb dX8_takeOperand_1 rfl ?_
  refine va_get (D := D) (ci := 8) (v := .int o_E.1) (C := RX8) (T := TX8) (N := 48) hx hb hts layX8 hown hK hP 0 rfl rfl 33 (by decide) (hts _ (inA q1011)) (fun _ h9 => h9) rfl dX8_takeOperand_2 ?_
  refine lv_iconst (v := 1) hx hb dX8_takeOperand_5 (by decide) ?_
  refine lv_isub hx hb dX8_takeOperand_6 ?_
  refine va_put (D := D) (ci := 8) (v := .int (o_E.1 - 1)) (ty := .int) (C := RX8) (T := TX8) (N := 48) hx hb hts layX8 tyX8 tyX8_ok nmX8 hown hK hP hD hS 0 rfl rfl 33 (by decide) (hts _ (inA q1011)) (fun _ h9 => h9) rfl (by decide +kernel) rfl rfl (Nat.le_of_ble_eq_true rfl) dX8_takeOperand_7 (fun H locs hP hD hS => ?_)
  have hP : va_P D vwCl (wM_E cI ad o_X o_L o_N o_T o_U o_O (o_E.1 - 1, o_E.2) o_Q o_V o_I) H := hP
  have hD : va_D A (wM_E cI ad o_X o_L o_N o_T o_U o_O (o_E.1 - 1, o_E.2) o_Q o_V o_I) := hD
  refine lv_aload_n hx hb dX8_takeOperand_10 rfl (lv_at hl 0 rfl) ?_
  refine va_get (D := D) (ci := 8) (v := .ref (ad 116)) (C := RX8) (T := TX8) (N := 48) hx hb hts layX8 hown hK hP 0 rfl rfl 34 (by decide) (hts _ (inA q1012)) (fun _ h9 => h9) rfl dX8_takeOperand_11 ?_
  refine lv_aload_n hx hb dX8_takeOperand_14 rfl (lv_at hl 0 rfl) ?_
  refine va_get (D := D) (ci := 8) (v := .int (o_E.1 - 1)) (C := RX8) (T := TX8) (N := 48) hx hb hts layX8 hown hK hP 0 rfl rfl 33 (by decide) (hts _ (inA q1011)) (fun _ h9 => h9) rfl dX8_takeOperand_15 ?_
  obtain ⟨b1, hM⟩ := gd_use hM
  refine va_iald hx hb hK hP 1 0 rfl rfl b1 dX8_takeOperand_18 ?_
  cases hM
  exact rt_i hx hb hr hlk hP hD hS rfl dX8_takeOperand_19

set_option maxHeartbeats 4000000 in
set_option maxRecDepth 100000 in
theorem c_Model_waitFor (l : Launch) (D : va_G) (cI : ClassId) (sd : Nat → Nat) (ad : Nat → Nat) (o_C : S_MC) (o_X : S_MX) (o_L : S_ML) (o_N : S_MN) (o_T : S_MT) (o_U : S_MU) (o_O : S_MO) (o_Q : S_MQ) (o_V : S_MV) (o_I : S_MI) (o_E : S_ME) (a1 : Int32) (a2 : Int32) (res : S_ME) (hM : f_Model_waitFor o_E a1 a2 = some res) : Ctr l D cI sd yX8_waitFor (wsM yX8_waitFor cX8_waitFor 3 (Option.none : Option Jvm.ClassFile.FieldType)) { frames := 0, cells := 0, slots := 0, locals := 0 } [.ref (ad 100), .int a1, .int a2] (wM_E cI ad o_X o_L o_N o_T o_U o_O o_E o_Q o_V o_I) (wM_E cI ad o_X o_L o_N o_T o_U o_O res o_Q o_V o_I) none := by
  refine Ctr.of (cc := cX8_waitFor) (maxL := 3) (own := RX8) (by decide +kernel) rfl rfl (Nat.le_of_ble_eq_true rfl) ?_
  intro p e s m below meth c A ls hx hb hr hml hown hts hlk hK hE hA hP hD hS hl
  have hl : lv_has ls 3 [(0, .ref (ad 100)), (1, .int a1), (2, .int a2)] := hl
  unfold f_Model_waitFor at hM
  refine lv_aload_n hx hb dX8_waitFor_0 rfl (lv_at hl 0 rfl) ?_
  refine va_get (D := D) (ci := 8) (v := .ref (ad 117)) (C := RX8) (T := TX8) (N := 48) hx hb hts layX8 hown hK hP 0 rfl rfl 36 (by decide) (hts _ (inA q1014)) (fun _ h9 => h9) rfl dX8_waitFor_1 ?_
  refine lv_aload_n hx hb dX8_waitFor_4 rfl (lv_at hl 0 rfl) ?_
  refine va_get (D := D) (ci := 8) (v := .int o_E.2.1) (C := RX8) (T := TX8) (N := 48) hx hb hts layX8 hown hK hP 0 rfl rfl 35 (by decide) (hts _ (inA q1013)) (fun _ h9 => h9) rfl dX8_waitFor_5 ?_
  refine lv_iload_n hx hb dX8_waitFor_8 rfl (lv_at hl 1 rfl) ?_
  obtain ⟨b1, hM⟩ := gd_use hM
  refine va_iast hx hb hK hP hD hS 2 0 rfl rfl b1 dX8_waitFor_9 (fun H locs hP hD hS => ?_)
  have hP : va_P D vwCl (wM_E cI ad o_X o_L o_N o_T o_U o_O (o_E.1, o_E.2.1, o_E.2.2.1, o_E.2.2.2.1, upd o_E.2.2.2.2.1 o_E.2.1.toNatClampNeg a1, o_E.2.2.2.2.2) o_Q o_V o_I) H := hP
  have hD : va_D A (wM_E cI ad o_X o_L o_N o_T o_U o_O (o_E.1, o_E.2.1, o_E.2.2.1, o_E.2.2.2.1, upd o_E.2.2.2.2.1 o_E.2.1.toNatClampNeg a1, o_E.2.2.2.2.2) o_Q o_V o_I) := hD
  refine lv_aload_n hx hb dX8_waitFor_10 rfl (lv_at hl 0 rfl) ?_
  refine va_get (D := D) (ci := 8) (v := .ref (ad 118)) (C := RX8) (T := TX8) (N := 48) hx hb hts layX8 hown hK hP 0 rfl rfl 37 (by decide) (hts _ (inA q1015)) (fun _ h9 => h9) rfl dX8_waitFor_11 ?_
  refine lv_aload_n hx hb dX8_waitFor_14 rfl (lv_at hl 0 rfl) ?_
  refine va_get (D := D) (ci := 8) (v := .int o_E.2.1) (C := RX8) (T := TX8) (N := 48) hx hb hts layX8 hown hK hP 0 rfl rfl 35 (by decide) (hts _ (inA q1013)) (fun _ h9 => h9) rfl dX8_waitFor_15 ?_
  refine lv_iload_n hx hb dX8_waitFor_18 rfl (lv_at hl 2 rfl) ?_
  obtain ⟨b2, hM⟩ := gd_use hM
  refine va_iast hx hb hK hP hD hS 3 0 rfl rfl b2 dX8_waitFor_19 (fun H locs hP hD hS => ?_)
  have hP : va_P D vwCl (wM_E cI ad o_X o_L o_N o_T o_U o_O (o_E.1, o_E.2.1, o_E.2.2.1, o_E.2.2.2.1, upd o_E.2.2.2.2.1 o_E.2.1.toNatClampNeg a1, upd o_E.2.2.2.2.2.1 o_E.2.1.toNatClampNeg a2, o_E.2.2.2.2.2.2) o_Q o_V o_I) H := hP
  have hD : va_D A (wM_E cI ad o_X o_L o_N o_T o_U o_O (o_E.1, o_E.2.1, o_E.2.2.1, o_E.2.2.2.1, upd o_E.2.2.2.2.1 o_E.2.1.toNatClampNeg a1, upd o_E.2.2.2.2.2.1 o_E.2.1.toNatClampNeg a2, o_E.2.2.2.2.2.2) o_Q o_V o_I) := hD
  refine lv_aload_n hx hb dX8_waitFor_20 rfl (lv_at hl 0 rfl) ?_
  refine lv_dup hx hb dX8_waitFor_21 rfl ?_
  refine va_get (D := D) (ci := 8) (v := .int o_E.2.1) (C := RX8) (T := TX8) (N := 48) hx hb hts layX8 hown hK hP 0 rfl rfl 35 (by decide) (hts _ (inA q1013)) (fun _ h9 => h9) rfl dX8_waitFor_22 ?_
  refine lv_iconst (v := 1) hx hb dX8_waitFor_25 (by decide) ?_
  refine lv_iadd hx hb dX8_waitFor_26 ?_
  refine va_put (D := D) (ci := 8) (v := .int (o_E.2.1 + 1)) (ty := .int) (C := RX8) (T := TX8) (N := 48) hx hb hts layX8 tyX8 tyX8_ok nmX8 hown hK hP hD hS 0 rfl rfl 35 (by decide) (hts _ (inA q1013)) (fun _ h9 => h9) rfl (by decide +kernel) rfl rfl (Nat.le_of_ble_eq_true rfl) dX8_waitFor_27 (fun H locs hP hD hS => ?_)
  have hP : va_P D vwCl (wM_E cI ad o_X o_L o_N o_T o_U o_O (o_E.1, o_E.2.1 + 1, o_E.2.2.1, o_E.2.2.2.1, upd o_E.2.2.2.2.1 o_E.2.1.toNatClampNeg a1, upd o_E.2.2.2.2.2.1 o_E.2.1.toNatClampNeg a2, o_E.2.2.2.2.2.2) o_Q o_V o_I) H := hP
  have hD : va_D A (wM_E cI ad o_X o_L o_N o_T o_U o_O (o_E.1, o_E.2.1 + 1, o_E.2.2.1, o_E.2.2.2.1, upd o_E.2.2.2.2.1 o_E.2.1.toNatClampNeg a1, upd o_E.2.2.2.2.2.1 o_E.2.1.toNatClampNeg a2, o_E.2.2.2.2.2.2) o_Q o_V o_I) := hD
  cases hM
  exact rt_v hx hb hr hlk hP hD hS rfl dX8_waitFor_30

set_option maxHeartbeats 4000000 in
set_option maxRecDepth 100000 in
theorem c_Model_expression (l : Launch) (D : va_G) (cI : ClassId) (sd : Nat → Nat) (ad : Nat → Nat) (o_C : S_MC) (o_X : S_MX) (o_L : S_ML) (o_N : S_MN) (o_T : S_MT) (o_Q : S_MQ) (o_V : S_MV) (o_I : S_MI) (o_U : S_MU) (o_O : S_MO) (o_E : S_ME) (res : S_MU × S_MO × S_ME) (hM : f_Model_expression o_U o_O o_E = some res) : Ctr l D cI sd yX8_expression (wsM yX8_expression cX8_expression 1 (Option.none : Option Jvm.ClassFile.FieldType)) { frames := 2, cells := 0, slots := 0, locals := 43 } [.ref (ad 100)] (wM_UOE cI ad o_X o_L o_N o_T o_U o_O o_E o_Q o_V o_I) (wM_UOE cI ad o_X o_L o_N o_T res.1 res.2.1 res.2.2 o_Q o_V o_I) none := by
  refine Ctr.of (cc := cX8_expression) (maxL := 1) (own := RX8) (by decide +kernel) rfl rfl (Nat.le_of_ble_eq_true rfl) ?_
  intro p e s m below meth c A ls hx hb hr hml hown hts hlk hK hE hA hP hD hS hl
  have hl : lv_has ls 1 [(0, .ref (ad 100))] := hl
  unfold f_Model_expression at hM
  refine lv_aload_n hx hb dX8_expression_0 rfl (lv_at hl 0 rfl) ?_
  refine lv_dup hx hb dX8_expression_1 rfl ?_
  refine va_get (D := D) (ci := 8) (v := .int o_O.2.2.1) (C := RX8) (T := TX8) (N := 48) hx hb hts layX8 hown hK hP 0 rfl rfl 29 (by decide) (hts _ (inA q1007)) (fun _ h9 => h9) rfl dX8_expression_2 ?_
  refine lv_iconst (v := 1) hx hb dX8_expression_5 (by decide) ?_
  refine lv_iadd hx hb dX8_expression_6 ?_
  refine va_put (D := D) (ci := 8) (v := .int (o_O.2.2.1 + 1)) (ty := .int) (C := RX8) (T := TX8) (N := 48) hx hb hts layX8 tyX8 tyX8_ok nmX8 hown hK hP hD hS 0 rfl rfl 29 (by decide) (hts _ (inA q1007)) (fun _ h9 => h9) rfl (by decide +kernel) rfl rfl (Nat.le_of_ble_eq_true rfl) dX8_expression_7 (fun H locs hP hD hS => ?_)
  have hP : va_P D vwCl (wM_UOE cI ad o_X o_L o_N o_T o_U (o_O.1, o_O.2.1, o_O.2.2.1 + 1, o_O.2.2.2) o_E o_Q o_V o_I) H := hP
  have hD : va_D A (wM_UOE cI ad o_X o_L o_N o_T o_U (o_O.1, o_O.2.1, o_O.2.2.1 + 1, o_O.2.2.2) o_E o_Q o_V o_I) := hD
  refine lv_aload_n hx hb dX8_expression_10 rfl (lv_at hl 0 rfl) ?_
  refine lv_iconst (v := (-1)) hx hb dX8_expression_11 (by decide) ?_
  refine lv_iconst (v := 0) hx hb dX8_expression_12 (by decide) ?_
  obtain ⟨r1, hcr1, hM⟩ := ob_use hM
  refine cl_V (As := [.int (-1), .int 0]) (rest := []) (wM_UOE cI ad o_X o_L o_N o_T o_U (o_O.1, o_O.2.1, o_O.2.2.1 + 1, o_O.2.2.2) r1 o_Q o_V o_I) [] ⟨hx, hb, hml, hown, hts⟩ (c_Model_waitFor l D cI sd ad o_C o_X o_L o_N o_T o_U (o_O.1, o_O.2.1, o_O.2.2.1 + 1, o_O.2.2.2) o_Q o_V o_I o_E (-1) 0 r1 hcr1) (cwV2 hts q1381 mvX8_waitFor rfl rfl ⟨(Nat.le_of_ble_eq_true rfl), (Nat.le_of_ble_eq_true rfl)⟩) hK hE hA hP hD hS 0 (T := TX8) (N := 48) (ci := 8) rfl rfl [0, 2, 3, 4, 5] rfl (by decide) (mrgE rfl rfl) rfl rfl rfl rfl rfl hl.1 (Nat.le_of_ble_eq_true rfl) dX8_expression_13 ⟨Nat.zero_le _, Nat.zero_le _⟩ (fun H locs hP hD hS => ?_)
  refine lv_aload_n hx hb dX8_expression_16 rfl (lv_at hl 0 rfl) ?_
  refine lv_sipush (v := 136) hx hb dX8_expression_17 (by decide) ?_
  refine lv_sipush (v := 135) hx hb dX8_expression_20 (by decide) ?_
  obtain ⟨r2, hcr2, hM⟩ := ob_use hM
  refine cl_V (As := [.int 136, .int 135]) (rest := []) (wM_UOE cI ad o_X o_L o_N o_T r2 (o_O.1, o_O.2.1, o_O.2.2.1 + 1, o_O.2.2.2) r1 o_Q o_V o_I) [] ⟨hx, hb, hml, hown, hts⟩ (c_Model_push2 l D cI sd ad o_C o_X o_L o_N o_T (o_O.1, o_O.2.1, o_O.2.2.1 + 1, o_O.2.2.2) r1 o_Q o_V o_I o_U 136 135 r2 hcr2) (cwV2 hts q1257 mvX8_push2 rfl rfl ⟨(Nat.le_of_ble_eq_true rfl), (Nat.le_of_ble_eq_true rfl)⟩) hK hE hA hP hD hS 0 (T := TX8) (N := 48) (ci := 8) rfl rfl [0, 1] rfl (by decide) rfl rfl rfl rfl rfl rfl hl.1 (Nat.le_of_ble_eq_true rfl) dX8_expression_23 ⟨Nat.zero_le _, Nat.zero_le _⟩ (fun H locs hP hD hS => ?_)
  cases hM
  exact rt_v hx hb hr hlk hP hD hS rfl dX8_expression_26

set_option maxHeartbeats 4000000 in
set_option maxRecDepth 100000 in
theorem c_Model_signAt (l : Launch) (D : va_G) (cI : ClassId) (sd : Nat → Nat) (ad : Nat → Nat) (o_C : S_MC) (o_X : S_MX) (o_N : S_MN) (o_T : S_MT) (o_U : S_MU) (o_O : S_MO) (o_E : S_ME) (o_Q : S_MQ) (o_V : S_MV) (o_I : S_MI) (o_L : S_ML) (res : Int32) (hM : f_Model_signAt o_L = some res) : Ctr l D cI sd yX8_signAt (wsM yX8_signAt cX8_signAt 1 (Option.some Jvm.ClassFile.FieldType.int)) { frames := 0, cells := 0, slots := 0, locals := 0 } [.ref (ad 100)] (wM_L cI ad o_X o_L o_N o_T o_U o_O o_E o_Q o_V o_I) (wM_L cI ad o_X o_L o_N o_T o_U o_O o_E o_Q o_V o_I) (some (.int res)) := by
  refine Ctr.of (cc := cX8_signAt) (maxL := 1) (own := RX8) (by decide +kernel) rfl rfl (Nat.le_of_ble_eq_true rfl) ?_
  intro p e s m below meth c A ls hx hb hr hml hown hts hlk hK hE hA hP hD hS hl
  have hl : lv_has ls 1 [(0, .ref (ad 100))] := hl
  unfold f_Model_signAt at hM
  refine lv_aload_n hx hb dX8_signAt_0 rfl (lv_at hl 0 rfl) ?_
  refine va_get (D := D) (ci := 8) (v := .int o_L.2.1) (C := RX8) (T := TX8) (N := 48) hx hb hts layX8 hown hK hP 0 rfl rfl 7 (by decide) (hts _ (inA q985)) (fun _ h9 => h9) rfl dX8_signAt_1 ?_
  by_cases c1 : o_L.2.1 = 30
  · replace hM := if_t c1 hM
    refine lv_tableIn (tgt := 184) hx hb dX8_signAt_4 (by rw [c1]; decide) (by rw [c1]; decide) (by rw [c1]; rfl) (by decide) ?_
    refine lv_iconst (v := 0) hx hb dX8_signAt_184 (by decide) ?_
    cases hM
    exact rt_i hx hb hr hlk hP hD hS rfl dX8_signAt_185
  replace hM := if_f c1 hM
  by_cases c2 : o_L.2.1 = 31
  · replace hM := if_t c2 hM
    refine lv_tableIn (tgt := 186) hx hb dX8_signAt_4 (by rw [c2]; decide) (by rw [c2]; decide) (by rw [c2]; rfl) (by decide) ?_
    refine lv_iconst (v := 1) hx hb dX8_signAt_186 (by decide) ?_
    cases hM
    exact rt_i hx hb hr hlk hP hD hS rfl dX8_signAt_187
  replace hM := if_f c2 hM
  by_cases c3 : o_L.2.1 = 32
  · replace hM := if_t c3 hM
    refine lv_tableIn (tgt := 188) hx hb dX8_signAt_4 (by rw [c3]; decide) (by rw [c3]; decide) (by rw [c3]; rfl) (by decide) ?_
    refine lv_iconst (v := 2) hx hb dX8_signAt_188 (by decide) ?_
    cases hM
    exact rt_i hx hb hr hlk hP hD hS rfl dX8_signAt_189
  replace hM := if_f c3 hM
  by_cases c4 : o_L.2.1 = 33
  · replace hM := if_t c4 hM
    refine lv_tableIn (tgt := 217) hx hb dX8_signAt_4 (by rw [c4]; decide) (by rw [c4]; decide) (by rw [c4]; rfl) (by decide) ?_
    refine lv_bipush (v := 13) hx hb dX8_signAt_217 (by decide) ?_
    cases hM
    exact rt_i hx hb hr hlk hP hD hS rfl dX8_signAt_219
  replace hM := if_f c4 hM
  by_cases c5 : o_L.2.1 = 34
  · replace hM := if_t c5 hM
    refine lv_tableIn (tgt := 220) hx hb dX8_signAt_4 (by rw [c5]; decide) (by rw [c5]; decide) (by rw [c5]; rfl) (by decide) ?_
    refine lv_iconst (v := (-1)) hx hb dX8_signAt_220 (by decide) ?_
    cases hM
    exact rt_i hx hb hr hlk hP hD hS rfl dX8_signAt_221
  replace hM := if_f c5 hM
  by_cases c6 : o_L.2.1 = 35
  · replace hM := if_t c6 hM
    refine lv_tableIn (tgt := 220) hx hb dX8_signAt_4 (by rw [c6]; decide) (by rw [c6]; decide) (by rw [c6]; rfl) (by decide) ?_
    refine lv_iconst (v := (-1)) hx hb dX8_signAt_220 (by decide) ?_
    cases hM
    exact rt_i hx hb hr hlk hP hD hS rfl dX8_signAt_221
  replace hM := if_f c6 hM
  by_cases c7 : o_L.2.1 = 36
  · replace hM := if_t c7 hM
    refine lv_tableIn (tgt := 220) hx hb dX8_signAt_4 (by rw [c7]; decide) (by rw [c7]; decide) (by rw [c7]; rfl) (by decide) ?_
    refine lv_iconst (v := (-1)) hx hb dX8_signAt_220 (by decide) ?_
    cases hM
    exact rt_i hx hb hr hlk hP hD hS rfl dX8_signAt_221
  replace hM := if_f c7 hM
  by_cases c8 : o_L.2.1 = 37
  · replace hM := if_t c8 hM
    refine lv_tableIn (tgt := 220) hx hb dX8_signAt_4 (by rw [c8]; decide) (by rw [c8]; decide) (by rw [c8]; rfl) (by decide) ?_
    refine lv_iconst (v := (-1)) hx hb dX8_signAt_220 (by decide) ?_
    cases hM
    exact rt_i hx hb hr hlk hP hD hS rfl dX8_signAt_221
  replace hM := if_f c8 hM
  by_cases c9 : o_L.2.1 = 38
  · replace hM := if_t c9 hM
    refine lv_tableIn (tgt := 220) hx hb dX8_signAt_4 (by rw [c9]; decide) (by rw [c9]; decide) (by rw [c9]; rfl) (by decide) ?_
    refine lv_iconst (v := (-1)) hx hb dX8_signAt_220 (by decide) ?_
    cases hM
    exact rt_i hx hb hr hlk hP hD hS rfl dX8_signAt_221
  replace hM := if_f c9 hM
  by_cases c10 : o_L.2.1 = 39
  · replace hM := if_t c10 hM
    refine lv_tableIn (tgt := 220) hx hb dX8_signAt_4 (by rw [c10]; decide) (by rw [c10]; decide) (by rw [c10]; rfl) (by decide) ?_
    refine lv_iconst (v := (-1)) hx hb dX8_signAt_220 (by decide) ?_
    cases hM
    exact rt_i hx hb hr hlk hP hD hS rfl dX8_signAt_221
  replace hM := if_f c10 hM
  by_cases c11 : o_L.2.1 = 40
  · replace hM := if_t c11 hM
    refine lv_tableIn (tgt := 220) hx hb dX8_signAt_4 (by rw [c11]; decide) (by rw [c11]; decide) (by rw [c11]; rfl) (by decide) ?_
    refine lv_iconst (v := (-1)) hx hb dX8_signAt_220 (by decide) ?_
    cases hM
    exact rt_i hx hb hr hlk hP hD hS rfl dX8_signAt_221
  replace hM := if_f c11 hM
  by_cases c12 : o_L.2.1 = 41
  · replace hM := if_t c12 hM
    refine lv_tableIn (tgt := 220) hx hb dX8_signAt_4 (by rw [c12]; decide) (by rw [c12]; decide) (by rw [c12]; rfl) (by decide) ?_
    refine lv_iconst (v := (-1)) hx hb dX8_signAt_220 (by decide) ?_
    cases hM
    exact rt_i hx hb hr hlk hP hD hS rfl dX8_signAt_221
  replace hM := if_f c12 hM
  by_cases c13 : o_L.2.1 = 42
  · replace hM := if_t c13 hM
    refine lv_tableIn (tgt := 220) hx hb dX8_signAt_4 (by rw [c13]; decide) (by rw [c13]; decide) (by rw [c13]; rfl) (by decide) ?_
    refine lv_iconst (v := (-1)) hx hb dX8_signAt_220 (by decide) ?_
    cases hM
    exact rt_i hx hb hr hlk hP hD hS rfl dX8_signAt_221
  replace hM := if_f c13 hM
  by_cases c14 : o_L.2.1 = 43
  · replace hM := if_t c14 hM
    refine lv_tableIn (tgt := 220) hx hb dX8_signAt_4 (by rw [c14]; decide) (by rw [c14]; decide) (by rw [c14]; rfl) (by decide) ?_
    refine lv_iconst (v := (-1)) hx hb dX8_signAt_220 (by decide) ?_
    cases hM
    exact rt_i hx hb hr hlk hP hD hS rfl dX8_signAt_221
  replace hM := if_f c14 hM
  by_cases c15 : o_L.2.1 = 44
  · replace hM := if_t c15 hM
    refine lv_tableIn (tgt := 220) hx hb dX8_signAt_4 (by rw [c15]; decide) (by rw [c15]; decide) (by rw [c15]; rfl) (by decide) ?_
    refine lv_iconst (v := (-1)) hx hb dX8_signAt_220 (by decide) ?_
    cases hM
    exact rt_i hx hb hr hlk hP hD hS rfl dX8_signAt_221
  replace hM := if_f c15 hM
  by_cases c16 : o_L.2.1 = 45
  · replace hM := if_t c16 hM
    refine lv_tableIn (tgt := 220) hx hb dX8_signAt_4 (by rw [c16]; decide) (by rw [c16]; decide) (by rw [c16]; rfl) (by decide) ?_
    refine lv_iconst (v := (-1)) hx hb dX8_signAt_220 (by decide) ?_
    cases hM
    exact rt_i hx hb hr hlk hP hD hS rfl dX8_signAt_221
  replace hM := if_f c16 hM
  by_cases c17 : o_L.2.1 = 46
  · replace hM := if_t c17 hM
    refine lv_tableIn (tgt := 220) hx hb dX8_signAt_4 (by rw [c17]; decide) (by rw [c17]; decide) (by rw [c17]; rfl) (by decide) ?_
    refine lv_iconst (v := (-1)) hx hb dX8_signAt_220 (by decide) ?_
    cases hM
    exact rt_i hx hb hr hlk hP hD hS rfl dX8_signAt_221
  replace hM := if_f c17 hM
  by_cases c18 : o_L.2.1 = 47
  · replace hM := if_t c18 hM
    refine lv_tableIn (tgt := 220) hx hb dX8_signAt_4 (by rw [c18]; decide) (by rw [c18]; decide) (by rw [c18]; rfl) (by decide) ?_
    refine lv_iconst (v := (-1)) hx hb dX8_signAt_220 (by decide) ?_
    cases hM
    exact rt_i hx hb hr hlk hP hD hS rfl dX8_signAt_221
  replace hM := if_f c18 hM
  by_cases c19 : o_L.2.1 = 48
  · replace hM := if_t c19 hM
    refine lv_tableIn (tgt := 220) hx hb dX8_signAt_4 (by rw [c19]; decide) (by rw [c19]; decide) (by rw [c19]; rfl) (by decide) ?_
    refine lv_iconst (v := (-1)) hx hb dX8_signAt_220 (by decide) ?_
    cases hM
    exact rt_i hx hb hr hlk hP hD hS rfl dX8_signAt_221
  replace hM := if_f c19 hM
  by_cases c20 : o_L.2.1 = 49
  · replace hM := if_t c20 hM
    refine lv_tableIn (tgt := 220) hx hb dX8_signAt_4 (by rw [c20]; decide) (by rw [c20]; decide) (by rw [c20]; rfl) (by decide) ?_
    refine lv_iconst (v := (-1)) hx hb dX8_signAt_220 (by decide) ?_
    cases hM
    exact rt_i hx hb hr hlk hP hD hS rfl dX8_signAt_221
  replace hM := if_f c20 hM
  by_cases c21 : o_L.2.1 = 50
  · replace hM := if_t c21 hM
    refine lv_tableIn (tgt := 220) hx hb dX8_signAt_4 (by rw [c21]; decide) (by rw [c21]; decide) (by rw [c21]; rfl) (by decide) ?_
    refine lv_iconst (v := (-1)) hx hb dX8_signAt_220 (by decide) ?_
    cases hM
    exact rt_i hx hb hr hlk hP hD hS rfl dX8_signAt_221
  replace hM := if_f c21 hM
  by_cases c22 : o_L.2.1 = 51
  · replace hM := if_t c22 hM
    refine lv_tableIn (tgt := 220) hx hb dX8_signAt_4 (by rw [c22]; decide) (by rw [c22]; decide) (by rw [c22]; rfl) (by decide) ?_
    refine lv_iconst (v := (-1)) hx hb dX8_signAt_220 (by decide) ?_
    cases hM
    exact rt_i hx hb hr hlk hP hD hS rfl dX8_signAt_221
  replace hM := if_f c22 hM
  by_cases c23 : o_L.2.1 = 52
  · replace hM := if_t c23 hM
    refine lv_tableIn (tgt := 199) hx hb dX8_signAt_4 (by rw [c23]; decide) (by rw [c23]; decide) (by rw [c23]; rfl) (by decide) ?_
    refine lv_bipush (v := 7) hx hb dX8_signAt_199 (by decide) ?_
    cases hM
    exact rt_i hx hb hr hlk hP hD hS rfl dX8_signAt_201
  replace hM := if_f c23 hM
  by_cases c24 : o_L.2.1 = 53
  · replace hM := if_t c24 hM
    refine lv_tableIn (tgt := 202) hx hb dX8_signAt_4 (by rw [c24]; decide) (by rw [c24]; decide) (by rw [c24]; rfl) (by decide) ?_
    refine lv_bipush (v := 8) hx hb dX8_signAt_202 (by decide) ?_
    cases hM
    exact rt_i hx hb hr hlk hP hD hS rfl dX8_signAt_204
  replace hM := if_f c24 hM
  by_cases c25 : o_L.2.1 = 54
  · replace hM := if_t c25 hM
    refine lv_tableIn (tgt := 192) hx hb dX8_signAt_4 (by rw [c25]; decide) (by rw [c25]; decide) (by rw [c25]; rfl) (by decide) ?_
    refine lv_iconst (v := 4) hx hb dX8_signAt_192 (by decide) ?_
    cases hM
    exact rt_i hx hb hr hlk hP hD hS rfl dX8_signAt_193
  replace hM := if_f c25 hM
  by_cases c26 : o_L.2.1 = 55
  · replace hM := if_t c26 hM
    refine lv_tableIn (tgt := 220) hx hb dX8_signAt_4 (by rw [c26]; decide) (by rw [c26]; decide) (by rw [c26]; rfl) (by decide) ?_
    refine lv_iconst (v := (-1)) hx hb dX8_signAt_220 (by decide) ?_
    cases hM
    exact rt_i hx hb hr hlk hP hD hS rfl dX8_signAt_221
  replace hM := if_f c26 hM
  by_cases c27 : o_L.2.1 = 56
  · replace hM := if_t c27 hM
    refine lv_tableIn (tgt := 220) hx hb dX8_signAt_4 (by rw [c27]; decide) (by rw [c27]; decide) (by rw [c27]; rfl) (by decide) ?_
    refine lv_iconst (v := (-1)) hx hb dX8_signAt_220 (by decide) ?_
    cases hM
    exact rt_i hx hb hr hlk hP hD hS rfl dX8_signAt_221
  replace hM := if_f c27 hM
  by_cases c28 : o_L.2.1 = 57
  · replace hM := if_t c28 hM
    refine lv_tableIn (tgt := 220) hx hb dX8_signAt_4 (by rw [c28]; decide) (by rw [c28]; decide) (by rw [c28]; rfl) (by decide) ?_
    refine lv_iconst (v := (-1)) hx hb dX8_signAt_220 (by decide) ?_
    cases hM
    exact rt_i hx hb hr hlk hP hD hS rfl dX8_signAt_221
  replace hM := if_f c28 hM
  by_cases c29 : o_L.2.1 = 58
  · replace hM := if_t c29 hM
    refine lv_tableIn (tgt := 220) hx hb dX8_signAt_4 (by rw [c29]; decide) (by rw [c29]; decide) (by rw [c29]; rfl) (by decide) ?_
    refine lv_iconst (v := (-1)) hx hb dX8_signAt_220 (by decide) ?_
    cases hM
    exact rt_i hx hb hr hlk hP hD hS rfl dX8_signAt_221
  replace hM := if_f c29 hM
  by_cases c30 : o_L.2.1 = 59
  · replace hM := if_t c30 hM
    refine lv_tableIn (tgt := 220) hx hb dX8_signAt_4 (by rw [c30]; decide) (by rw [c30]; decide) (by rw [c30]; rfl) (by decide) ?_
    refine lv_iconst (v := (-1)) hx hb dX8_signAt_220 (by decide) ?_
    cases hM
    exact rt_i hx hb hr hlk hP hD hS rfl dX8_signAt_221
  replace hM := if_f c30 hM
  by_cases c31 : o_L.2.1 = 60
  · replace hM := if_t c31 hM
    refine lv_tableIn (tgt := 220) hx hb dX8_signAt_4 (by rw [c31]; decide) (by rw [c31]; decide) (by rw [c31]; rfl) (by decide) ?_
    refine lv_iconst (v := (-1)) hx hb dX8_signAt_220 (by decide) ?_
    cases hM
    exact rt_i hx hb hr hlk hP hD hS rfl dX8_signAt_221
  replace hM := if_f c31 hM
  by_cases c32 : o_L.2.1 = 61
  · replace hM := if_t c32 hM
    refine lv_tableIn (tgt := 220) hx hb dX8_signAt_4 (by rw [c32]; decide) (by rw [c32]; decide) (by rw [c32]; rfl) (by decide) ?_
    refine lv_iconst (v := (-1)) hx hb dX8_signAt_220 (by decide) ?_
    cases hM
    exact rt_i hx hb hr hlk hP hD hS rfl dX8_signAt_221
  replace hM := if_f c32 hM
  by_cases c33 : o_L.2.1 = 62
  · replace hM := if_t c33 hM
    refine lv_tableIn (tgt := 220) hx hb dX8_signAt_4 (by rw [c33]; decide) (by rw [c33]; decide) (by rw [c33]; rfl) (by decide) ?_
    refine lv_iconst (v := (-1)) hx hb dX8_signAt_220 (by decide) ?_
    cases hM
    exact rt_i hx hb hr hlk hP hD hS rfl dX8_signAt_221
  replace hM := if_f c33 hM
  by_cases c34 : o_L.2.1 = 63
  · replace hM := if_t c34 hM
    refine lv_tableIn (tgt := 205) hx hb dX8_signAt_4 (by rw [c34]; decide) (by rw [c34]; decide) (by rw [c34]; rfl) (by decide) ?_
    refine lv_bipush (v := 9) hx hb dX8_signAt_205 (by decide) ?_
    cases hM
    exact rt_i hx hb hr hlk hP hD hS rfl dX8_signAt_207
  replace hM := if_f c34 hM
  by_cases c35 : o_L.2.1 = 64
  · replace hM := if_t c35 hM
    refine lv_tableIn (tgt := 208) hx hb dX8_signAt_4 (by rw [c35]; decide) (by rw [c35]; decide) (by rw [c35]; rfl) (by decide) ?_
    refine lv_bipush (v := 10) hx hb dX8_signAt_208 (by decide) ?_
    cases hM
    exact rt_i hx hb hr hlk hP hD hS rfl dX8_signAt_210
  replace hM := if_f c35 hM
  by_cases c36 : o_L.2.1 = 65
  · replace hM := if_t c36 hM
    refine lv_tableIn (tgt := 211) hx hb dX8_signAt_4 (by rw [c36]; decide) (by rw [c36]; decide) (by rw [c36]; rfl) (by decide) ?_
    refine lv_bipush (v := 11) hx hb dX8_signAt_211 (by decide) ?_
    cases hM
    exact rt_i hx hb hr hlk hP hD hS rfl dX8_signAt_213
  replace hM := if_f c36 hM
  by_cases c37 : o_L.2.1 = 66
  · replace hM := if_t c37 hM
    refine lv_tableIn (tgt := 214) hx hb dX8_signAt_4 (by rw [c37]; decide) (by rw [c37]; decide) (by rw [c37]; rfl) (by decide) ?_
    refine lv_bipush (v := 12) hx hb dX8_signAt_214 (by decide) ?_
    cases hM
    exact rt_i hx hb hr hlk hP hD hS rfl dX8_signAt_216
  replace hM := if_f c37 hM
  by_cases c38 : o_L.2.1 = 67
  · replace hM := if_t c38 hM
    refine lv_tableIn (tgt := 190) hx hb dX8_signAt_4 (by rw [c38]; decide) (by rw [c38]; decide) (by rw [c38]; rfl) (by decide) ?_
    refine lv_iconst (v := 3) hx hb dX8_signAt_190 (by decide) ?_
    cases hM
    exact rt_i hx hb hr hlk hP hD hS rfl dX8_signAt_191
  replace hM := if_f c38 hM
  by_cases c39 : o_L.2.1 = 68
  · replace hM := if_t c39 hM
    refine lv_tableIn (tgt := 194) hx hb dX8_signAt_4 (by rw [c39]; decide) (by rw [c39]; decide) (by rw [c39]; rfl) (by decide) ?_
    refine lv_iconst (v := 5) hx hb dX8_signAt_194 (by decide) ?_
    cases hM
    exact rt_i hx hb hr hlk hP hD hS rfl dX8_signAt_195
  replace hM := if_f c39 hM
  by_cases c40 : o_L.2.1 = 69
  · replace hM := if_t c40 hM
    refine lv_tableIn (tgt := 196) hx hb dX8_signAt_4 (by rw [c40]; decide) (by rw [c40]; decide) (by rw [c40]; rfl) (by decide) ?_
    refine lv_bipush (v := 6) hx hb dX8_signAt_196 (by decide) ?_
    cases hM
    exact rt_i hx hb hr hlk hP hD hS rfl dX8_signAt_198
  replace hM := if_f c40 hM
  by_cases c41 : o_L.2.1 = 70
  · replace hM := if_t c41 hM
    refine lv_tableIn (tgt := 188) hx hb dX8_signAt_4 (by rw [c41]; decide) (by rw [c41]; decide) (by rw [c41]; rfl) (by decide) ?_
    refine lv_iconst (v := 2) hx hb dX8_signAt_188 (by decide) ?_
    cases hM
    exact rt_i hx hb hr hlk hP hD hS rfl dX8_signAt_189
  replace hM := if_f c41 hM
  refine lv_tableOut (tgt := 220) hx hb dX8_signAt_4 (by have := lv_neT c1 (show (30 : Int32).toInt = 30 by decide); have := lv_neT c2 (show (31 : Int32).toInt = 31 by decide); have := lv_neT c3 (show (32 : Int32).toInt = 32 by decide); have := lv_neT c4 (show (33 : Int32).toInt = 33 by decide); have := lv_neT c5 (show (34 : Int32).toInt = 34 by decide); have := lv_neT c6 (show (35 : Int32).toInt = 35 by decide); have := lv_neT c7 (show (36 : Int32).toInt = 36 by decide); have := lv_neT c8 (show (37 : Int32).toInt = 37 by decide); have := lv_neT c9 (show (38 : Int32).toInt = 38 by decide); have := lv_neT c10 (show (39 : Int32).toInt = 39 by decide); have := lv_neT c11 (show (40 : Int32).toInt = 40 by decide); have := lv_neT c12 (show (41 : Int32).toInt = 41 by decide); have := lv_neT c13 (show (42 : Int32).toInt = 42 by decide); have := lv_neT c14 (show (43 : Int32).toInt = 43 by decide); have := lv_neT c15 (show (44 : Int32).toInt = 44 by decide); have := lv_neT c16 (show (45 : Int32).toInt = 45 by decide); have := lv_neT c17 (show (46 : Int32).toInt = 46 by decide); have := lv_neT c18 (show (47 : Int32).toInt = 47 by decide); have := lv_neT c19 (show (48 : Int32).toInt = 48 by decide); have := lv_neT c20 (show (49 : Int32).toInt = 49 by decide); have := lv_neT c21 (show (50 : Int32).toInt = 50 by decide); have := lv_neT c22 (show (51 : Int32).toInt = 51 by decide); have := lv_neT c23 (show (52 : Int32).toInt = 52 by decide); have := lv_neT c24 (show (53 : Int32).toInt = 53 by decide); have := lv_neT c25 (show (54 : Int32).toInt = 54 by decide); have := lv_neT c26 (show (55 : Int32).toInt = 55 by decide); have := lv_neT c27 (show (56 : Int32).toInt = 56 by decide); have := lv_neT c28 (show (57 : Int32).toInt = 57 by decide); have := lv_neT c29 (show (58 : Int32).toInt = 58 by decide); have := lv_neT c30 (show (59 : Int32).toInt = 59 by decide); have := lv_neT c31 (show (60 : Int32).toInt = 60 by decide); have := lv_neT c32 (show (61 : Int32).toInt = 61 by decide); have := lv_neT c33 (show (62 : Int32).toInt = 62 by decide); have := lv_neT c34 (show (63 : Int32).toInt = 63 by decide); have := lv_neT c35 (show (64 : Int32).toInt = 64 by decide); have := lv_neT c36 (show (65 : Int32).toInt = 65 by decide); have := lv_neT c37 (show (66 : Int32).toInt = 66 by decide); have := lv_neT c38 (show (67 : Int32).toInt = 67 by decide); have := lv_neT c39 (show (68 : Int32).toInt = 68 by decide); have := lv_neT c40 (show (69 : Int32).toInt = 69 by decide); have := lv_neT c41 (show (70 : Int32).toInt = 70 by decide); omega) (by decide) ?_
  refine lv_iconst (v := (-1)) hx hb dX8_signAt_220 (by decide) ?_
  cases hM
  exact rt_i hx hb hr hlk hP hD hS rfl dX8_signAt_221

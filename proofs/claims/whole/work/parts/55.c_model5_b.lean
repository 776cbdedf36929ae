set_option maxHeartbeats 4000000 in
set_option maxRecDepth 100000 in
theorem c_Model_coil (l : Launch) (D : va_G) (cI : ClassId) (sd : Nat → Nat) (ad : Nat → Nat) (o_U : S_MU) (o_O : S_MO) (o_E : S_ME) (o_Q : S_MQ) (o_V : S_MV) (o_I : S_MI) (o_C : S_MC) (o_X : S_MX) (o_L : S_ML) (o_N : S_MN) (o_T : S_MT) (res : S_ML × S_MN × S_MT) (hM : f_Model_coil o_C o_X o_L o_N o_T = some res) : Ctr l D cI sd yX8_coil (wsM yX8_coil cX8_coil 2 (Option.none : Option Jvm.ClassFile.FieldType)) { frames := 5, cells := 0, slots := 0, locals := 112 } [.ref (ad 100)] (wM_CXLNT cI ad o_X o_L o_N o_T o_U o_O o_E o_Q o_V o_I o_C) (wM_CXLNT cI ad o_X res.1 res.2.1 res.2.2 o_U o_O o_E o_Q o_V o_I o_C) none := by
  refine Ctr.of (cc := cX8_coil) (maxL := 2) (own := RX8) (by decide +kernel) rfl rfl (Nat.le_of_ble_eq_true rfl) ?_
  intro p e s m below meth c A ls hx hb hr hml hown hts hlk hK hE hA hP hD hS hl
  have hl : lv_has ls 2 [(0, .ref (ad 100))] := hl
  unfold f_Model_coil at hM
  refine lv_aload_n hx hb dX8_coil_0 rfl (lv_at hl 0 rfl) ?_
  refine va_get (D := D) (ci := 8) (v := .int o_L.2.1) (C := RX8) (T := TX8) (N := 48) hx hb hts layX8 hown hK hP 0 rfl rfl 7 (by decide) (hts _ (inA q985)) (fun _ h9 => h9) rfl dX8_coil_1 ?_
  refine lv_bipush (v := 66) hx hb dX8_coil_4 (by decide) ?_
  refine lv_icmp_ne (tgt := 13) hx hb dX8_coil_6 (by decide) (fun c1 => ?_) (fun c1 => ?_)
  · replace hM := if_f c1 hM
    refine lv_aload_n hx hb dX8_coil_13 rfl (lv_at hl 0 rfl) ?_
    refine va_get (D := D) (ci := 8) (v := .int o_L.2.1) (C := RX8) (T := TX8) (N := 48) hx hb hts layX8 hown hK hP 0 rfl rfl 7 (by decide) (hts _ (inA q985)) (fun _ h9 => h9) rfl dX8_coil_14 ?_
    refine lv_bipush (v := 63) hx hb dX8_coil_17 (by decide) ?_
    refine lv_icmp_ne (tgt := 26) hx hb dX8_coil_19 (by decide) (fun c2 => ?_) (fun c2 => ?_)
    · replace hM := if_f c2 hM
      refine lv_aload_n hx hb dX8_coil_26 rfl (lv_at hl 0 rfl) ?_
      refine va_get (D := D) (ci := 8) (v := .int o_L.2.1) (C := RX8) (T := TX8) (N := 48) hx hb hts layX8 hown hK hP 0 rfl rfl 7 (by decide) (hts _ (inA q985)) (fun _ h9 => h9) rfl dX8_coil_27 ?_
      refine lv_bipush (v := 64) hx hb dX8_coil_30 (by decide) ?_
      refine lv_icmp_ne (tgt := 39) hx hb dX8_coil_32 (by decide) (fun c3 => ?_) (fun c3 => ?_)
      · replace hM := if_f c3 hM
        refine lv_iconst (v := 0) hx hb dX8_coil_39 (by decide) ?_
        refine lv_istore_n (lv' := [(1, .int 0), (0, .ref (ad 100))]) hx hb dX8_coil_40 rfl hl (by decide) rfl (fun ls hl => ?_)
        refine lv_aload_n hx hb dX8_coil_41 rfl (lv_at hl 1 rfl) ?_
        refine va_get (D := D) (ci := 8) (v := .ref (ad 110)) (C := RX8) (T := TX8) (N := 48) hx hb hts layX8 hown hK hP 0 rfl rfl 19 (by decide) (hts _ (inA q997)) (fun _ h9 => h9) rfl dX8_coil_42 ?_
        refine lv_aload_n hx hb dX8_coil_45 rfl (lv_at hl 1 rfl) ?_
        refine va_get (D := D) (ci := 8) (v := .int o_T.2.1) (C := RX8) (T := TX8) (N := 48) hx hb hts layX8 hown hK hP 0 rfl rfl 24 (by decide) (hts _ (inA q1002)) (fun _ h9 => h9) rfl dX8_coil_46 ?_
        refine lv_iload_n hx hb dX8_coil_49 rfl (lv_at hl 0 rfl) ?_
        obtain ⟨b4, hM⟩ := gd_use hM
        refine va_iast hx hb hK hP hD hS 10 0 rfl rfl b4 dX8_coil_50 (fun H locs hP hD hS => ?_)
        have hP : va_P D vwCl (wM_CXLNT cI ad o_X o_L o_N (o_T.1, o_T.2.1, o_T.2.2.1, o_T.2.2.2.1, upd o_T.2.2.2.2.1 o_T.2.1.toNatClampNeg 0, o_T.2.2.2.2.2) o_U o_O o_E o_Q o_V o_I o_C) H := hP
        have hD : va_D A (wM_CXLNT cI ad o_X o_L o_N (o_T.1, o_T.2.1, o_T.2.2.1, o_T.2.2.2.1, upd o_T.2.2.2.2.1 o_T.2.1.toNatClampNeg 0, o_T.2.2.2.2.2) o_U o_O o_E o_Q o_V o_I o_C) := hD
        refine lv_iload_n hx hb dX8_coil_51 rfl (lv_at hl 0 rfl) ?_
        refine lv_if_le (tgt := 59) hx hb dX8_coil_52 (by decide) (fun c5 => ?_) (fun c5 => False.elim (by revert c5; decide))
        cases hM
        exact rt_v hx hb hr hlk hP hD hS rfl dX8_coil_59
      · replace hM := if_t c3 hM
        refine lv_iconst (v := 3) hx hb dX8_coil_35 (by decide) ?_
        refine lv_goto (tgt := 40) hx hb dX8_coil_36 (by decide) ?_
        refine lv_istore_n (lv' := [(1, .int 3), (0, .ref (ad 100))]) hx hb dX8_coil_40 rfl hl (by decide) rfl (fun ls hl => ?_)
        refine lv_aload_n hx hb dX8_coil_41 rfl (lv_at hl 1 rfl) ?_
        refine va_get (D := D) (ci := 8) (v := .ref (ad 110)) (C := RX8) (T := TX8) (N := 48) hx hb hts layX8 hown hK hP 0 rfl rfl 19 (by decide) (hts _ (inA q997)) (fun _ h9 => h9) rfl dX8_coil_42 ?_
        refine lv_aload_n hx hb dX8_coil_45 rfl (lv_at hl 1 rfl) ?_
        refine va_get (D := D) (ci := 8) (v := .int o_T.2.1) (C := RX8) (T := TX8) (N := 48) hx hb hts layX8 hown hK hP 0 rfl rfl 24 (by decide) (hts _ (inA q1002)) (fun _ h9 => h9) rfl dX8_coil_46 ?_
        refine lv_iload_n hx hb dX8_coil_49 rfl (lv_at hl 0 rfl) ?_
        obtain ⟨b6, hM⟩ := gd_use hM
        refine va_iast hx hb hK hP hD hS 10 0 rfl rfl b6 dX8_coil_50 (fun H locs hP hD hS => ?_)
        have hP : va_P D vwCl (wM_CXLNT cI ad o_X o_L o_N (o_T.1, o_T.2.1, o_T.2.2.1, o_T.2.2.2.1, upd o_T.2.2.2.2.1 o_T.2.1.toNatClampNeg 3, o_T.2.2.2.2.2) o_U o_O o_E o_Q o_V o_I o_C) H := hP
        have hD : va_D A (wM_CXLNT cI ad o_X o_L o_N (o_T.1, o_T.2.1, o_T.2.2.1, o_T.2.2.2.1, upd o_T.2.2.2.2.1 o_T.2.1.toNatClampNeg 3, o_T.2.2.2.2.2) o_U o_O o_E o_Q o_V o_I o_C) := hD
        refine lv_iload_n hx hb dX8_coil_51 rfl (lv_at hl 0 rfl) ?_
        refine lv_if_le (tgt := 59) hx hb dX8_coil_52 (by decide) (fun c7 => False.elim (by revert c7; decide)) (fun c7 => ?_)
        refine lv_aload_n hx hb dX8_coil_55 rfl (lv_at hl 1 rfl) ?_
        obtain ⟨r8, hcr8, hM⟩ := ob_use hM
        refine cl_V (As := []) (rest := []) (wM_CXLNT cI ad o_X r8.1 r8.2 (o_T.1, o_T.2.1, o_T.2.2.1, o_T.2.2.2.1, upd o_T.2.2.2.2.1 o_T.2.1.toNatClampNeg 3, o_T.2.2.2.2.2) o_U o_O o_E o_Q o_V o_I o_C) [] ⟨hx, hb, hml, hown, hts⟩ (c_Model_step l D cI sd ad (o_T.1, o_T.2.1, o_T.2.2.1, o_T.2.2.2.1, upd o_T.2.2.2.2.1 o_T.2.1.toNatClampNeg 3, o_T.2.2.2.2.2) o_U o_O o_E o_Q o_V o_I o_C o_X o_L o_N r8 hcr8) (cwV2 hts q1151 mvX8_step rfl rfl ⟨(Nat.le_of_ble_eq_true rfl), (Nat.le_of_ble_eq_true rfl)⟩) hK hE hA hP hD hS 0 (T := TX8) (N := 48) (ci := 8) rfl rfl [0, 1, 2, 3, 4, 5, 6, 7] rfl (by decide) (mrgE rfl rfl) rfl rfl rfl rfl rfl hl.1 (Nat.le_of_ble_eq_true rfl) dX8_coil_56 ⟨Nat.zero_le _, Nat.zero_le _⟩ (fun H locs hP hD hS => ?_)
        cases hM
        exact rt_v hx hb hr hlk hP hD hS rfl dX8_coil_59
    · replace hM := if_t c2 hM
      refine lv_iconst (v := 2) hx hb dX8_coil_22 (by decide) ?_
      refine lv_goto (tgt := 40) hx hb dX8_coil_23 (by decide) ?_
      refine lv_istore_n (lv' := [(1, .int 2), (0, .ref (ad 100))]) hx hb dX8_coil_40 rfl hl (by decide) rfl (fun ls hl => ?_)
      refine lv_aload_n hx hb dX8_coil_41 rfl (lv_at hl 1 rfl) ?_
      refine va_get (D := D) (ci := 8) (v := .ref (ad 110)) (C := RX8) (T := TX8) (N := 48) hx hb hts layX8 hown hK hP 0 rfl rfl 19 (by decide) (hts _ (inA q997)) (fun _ h9 => h9) rfl dX8_coil_42 ?_
      refine lv_aload_n hx hb dX8_coil_45 rfl (lv_at hl 1 rfl) ?_
      refine va_get (D := D) (ci := 8) (v := .int o_T.2.1) (C := RX8) (T := TX8) (N := 48) hx hb hts layX8 hown hK hP 0 rfl rfl 24 (by decide) (hts _ (inA q1002)) (fun _ h9 => h9) rfl dX8_coil_46 ?_
      refine lv_iload_n hx hb dX8_coil_49 rfl (lv_at hl 0 rfl) ?_
      obtain ⟨b9, hM⟩ := gd_use hM
      refine va_iast hx hb hK hP hD hS 10 0 rfl rfl b9 dX8_coil_50 (fun H locs hP hD hS => ?_)
      have hP : va_P D vwCl (wM_CXLNT cI ad o_X o_L o_N (o_T.1, o_T.2.1, o_T.2.2.1, o_T.2.2.2.1, upd o_T.2.2.2.2.1 o_T.2.1.toNatClampNeg 2, o_T.2.2.2.2.2) o_U o_O o_E o_Q o_V o_I o_C) H := hP
      have hD : va_D A (wM_CXLNT cI ad o_X o_L o_N (o_T.1, o_T.2.1, o_T.2.2.1, o_T.2.2.2.1, upd o_T.2.2.2.2.1 o_T.2.1.toNatClampNeg 2, o_T.2.2.2.2.2) o_U o_O o_E o_Q o_V o_I o_C) := hD
      refine lv_iload_n hx hb dX8_coil_51 rfl (lv_at hl 0 rfl) ?_
      refine lv_if_le (tgt := 59) hx hb dX8_coil_52 (by decide) (fun c10 => False.elim (by revert c10; decide)) (fun c10 => ?_)
      refine lv_aload_n hx hb dX8_coil_55 rfl (lv_at hl 1 rfl) ?_
      obtain ⟨r11, hcr11, hM⟩ := ob_use hM
      refine cl_V (As := []) (rest := []) (wM_CXLNT cI ad o_X r11.1 r11.2 (o_T.1, o_T.2.1, o_T.2.2.1, o_T.2.2.2.1, upd o_T.2.2.2.2.1 o_T.2.1.toNatClampNeg 2, o_T.2.2.2.2.2) o_U o_O o_E o_Q o_V o_I o_C) [] ⟨hx, hb, hml, hown, hts⟩ (c_Model_step l D cI sd ad (o_T.1, o_T.2.1, o_T.2.2.1, o_T.2.2.2.1, upd o_T.2.2.2.2.1 o_T.2.1.toNatClampNeg 2, o_T.2.2.2.2.2) o_U o_O o_E o_Q o_V o_I o_C o_X o_L o_N r11 hcr11) (cwV2 hts q1151 mvX8_step rfl rfl ⟨(Nat.le_of_ble_eq_true rfl), (Nat.le_of_ble_eq_true rfl)⟩) hK hE hA hP hD hS 0 (T := TX8) (N := 48) (ci := 8) rfl rfl [0, 1, 2, 3, 4, 5, 6, 7] rfl (by decide) (mrgE rfl rfl) rfl rfl rfl rfl rfl hl.1 (Nat.le_of_ble_eq_true rfl) dX8_coil_56 ⟨Nat.zero_le _, Nat.zero_le _⟩ (fun H locs hP hD hS => ?_)
      cases hM
      exact rt_v hx hb hr hlk hP hD hS rfl dX8_coil_59
  · replace hM := if_t c1 hM
    refine lv_iconst (v := 1) hx hb dX8_coil_9 (by decide) ?_
    refine lv_goto (tgt := 40) hx hb dX8_coil_10 (by decide) ?_
    refine lv_istore_n (lv' := [(1, .int 1), (0, .ref (ad 100))]) hx hb dX8_coil_40 rfl hl (by decide) rfl (fun ls hl => ?_)
    refine lv_aload_n hx hb dX8_coil_41 rfl (lv_at hl 1 rfl) ?_
    refine va_get (D := D) (ci := 8) (v := .ref (ad 110)) (C := RX8) (T := TX8) (N := 48) hx hb hts layX8 hown hK hP 0 rfl rfl 19 (by decide) (hts _ (inA q997)) (fun _ h9 => h9) rfl dX8_coil_42 ?_
    refine lv_aload_n hx hb dX8_coil_45 rfl (lv_at hl 1 rfl) ?_
    refine va_get (D := D) (ci := 8) (v := .int o_T.2.1) (C := RX8) (T := TX8) (N := 48) hx hb hts layX8 hown hK hP 0 rfl rfl 24 (by decide) (hts _ (inA q1002)) (fun _ h9 => h9) rfl dX8_coil_46 ?_
    refine lv_iload_n hx hb dX8_coil_49 rfl (lv_at hl 0 rfl) ?_
    obtain ⟨b12, hM⟩ := gd_use hM
    refine va_iast hx hb hK hP hD hS 10 0 rfl rfl b12 dX8_coil_50 (fun H locs hP hD hS => ?_)
    have hP : va_P D vwCl (wM_CXLNT cI ad o_X o_L o_N (o_T.1, o_T.2.1, o_T.2.2.1, o_T.2.2.2.1, upd o_T.2.2.2.2.1 o_T.2.1.toNatClampNeg 1, o_T.2.2.2.2.2) o_U o_O o_E o_Q o_V o_I o_C) H := hP
    have hD : va_D A (wM_CXLNT cI ad o_X o_L o_N (o_T.1, o_T.2.1, o_T.2.2.1, o_T.2.2.2.1, upd o_T.2.2.2.2.1 o_T.2.1.toNatClampNeg 1, o_T.2.2.2.2.2) o_U o_O o_E o_Q o_V o_I o_C) := hD
    refine lv_iload_n hx hb dX8_coil_51 rfl (lv_at hl 0 rfl) ?_
    refine lv_if_le (tgt := 59) hx hb dX8_coil_52 (by decide) (fun c13 => False.elim (by revert c13; decide)) (fun c13 => ?_)
    refine lv_aload_n hx hb dX8_coil_55 rfl (lv_at hl 1 rfl) ?_
    obtain ⟨r14, hcr14, hM⟩ := ob_use hM
    refine cl_V (As := []) (rest := []) (wM_CXLNT cI ad o_X r14.1 r14.2 (o_T.1, o_T.2.1, o_T.2.2.1, o_T.2.2.2.1, upd o_T.2.2.2.2.1 o_T.2.1.toNatClampNeg 1, o_T.2.2.2.2.2) o_U o_O o_E o_Q o_V o_I o_C) [] ⟨hx, hb, hml, hown, hts⟩ (c_Model_step l D cI sd ad (o_T.1, o_T.2.1, o_T.2.2.1, o_T.2.2.2.1, upd o_T.2.2.2.2.1 o_T.2.1.toNatClampNeg 1, o_T.2.2.2.2.2) o_U o_O o_E o_Q o_V o_I o_C o_X o_L o_N r14 hcr14) (cwV2 hts q1151 mvX8_step rfl rfl ⟨(Nat.le_of_ble_eq_true rfl), (Nat.le_of_ble_eq_true rfl)⟩) hK hE hA hP hD hS 0 (T := TX8) (N := 48) (ci := 8) rfl rfl [0, 1, 2, 3, 4, 5, 6, 7] rfl (by decide) (mrgE rfl rfl) rfl rfl rfl rfl rfl hl.1 (Nat.le_of_ble_eq_true rfl) dX8_coil_56 ⟨Nat.zero_le _, Nat.zero_le _⟩ (fun H locs hP hD hS => ?_)
    cases hM
    exact rt_v hx hb hr hlk hP hD hS rfl dX8_coil_59

set_option maxHeartbeats 4000000 in
set_option maxRecDepth 100000 in
theorem c_Model_moreCells (l : Launch) (D : va_G) (cI : ClassId) (sd : Nat → Nat) (ad : Nat → Nat) (o_O : S_MO) (o_E : S_ME) (o_Q : S_MQ) (o_V : S_MV) (o_I : S_MI) (o_C : S_MC) (o_X : S_MX) (o_L : S_ML) (o_N : S_MN) (o_T : S_MT) (o_U : S_MU) (res : S_ML × S_MN × S_MT × S_MU) (hM : f_Model_moreCells o_C o_X o_L o_N o_T o_U = some res) : Ctr l D cI sd yX8_moreCells (wsM yX8_moreCells cX8_moreCells 1 (Option.none : Option Jvm.ClassFile.FieldType)) { frames := 5, cells := 0, slots := 0, locals := 112 } [.ref (ad 100)] (wM_CXLNTU cI ad o_X o_L o_N o_T o_U o_O o_E o_Q o_V o_I o_C) (wM_CXLNTU cI ad o_X res.1 res.2.1 res.2.2.1 res.2.2.2 o_O o_E o_Q o_V o_I o_C) none := by
  refine Ctr.of (cc := cX8_moreCells) (maxL := 1) (own := RX8) (by decide +kernel) rfl rfl (Nat.le_of_ble_eq_true rfl) ?_
  intro p e s m below meth c A ls hx hb hr hml hown hts hlk hK hE hA hP hD hS hl
  have hl : lv_has ls 1 [(0, .ref (ad 100))] := hl
  unfold f_Model_moreCells at hM
  refine lv_aload_n hx hb dX8_moreCells_0 rfl (lv_at hl 0 rfl) ?_
  refine va_get (D := D) (ci := 8) (v := .int o_L.2.1) (C := RX8) (T := TX8) (N := 48) hx hb hts layX8 hown hK hP 0 rfl rfl 7 (by decide) (hts _ (inA q985)) (fun _ h9 => h9) rfl dX8_moreCells_1 ?_
  refine lv_bipush (v := 71) hx hb dX8_moreCells_4 (by decide) ?_
  refine lv_icmp_ne (tgt := 37) hx hb dX8_moreCells_6 (by decide) (fun c1 => ?_) (fun c1 => ?_)
  · replace hM := if_f c1 hM
    refine lv_aload_n hx hb dX8_moreCells_37 rfl (lv_at hl 0 rfl) ?_
    obtain ⟨r2, hcr2, hM⟩ := ob_use hM
    refine cl_V (As := []) (rest := []) (wM_CXLNTU cI ad o_X o_L o_N o_T o_U o_O o_E o_Q o_V o_I o_C) (.int r2 :: []) ⟨hx, hb, hml, hown, hts⟩ (c_Model_isCell l D cI sd ad o_C o_X o_N o_T o_U o_O o_E o_Q o_V o_I o_L r2 hcr2) (cwV2 hts q1460 mvX8_isCell rfl rfl ⟨(Nat.le_of_ble_eq_true rfl), (Nat.le_of_ble_eq_true rfl)⟩) hK hE hA hP hD hS 0 (T := TX8) (N := 48) (ci := 8) rfl rfl [0] rfl (by decide) rfl rfl rfl rfl rfl rfl hl.1 (Nat.le_of_ble_eq_true rfl) dX8_moreCells_38 ⟨Nat.zero_le _, Nat.zero_le _⟩ (fun H locs hP hD hS => ?_)
    refine lv_if_eq (tgt := 54) hx hb dX8_moreCells_41 (by decide) (fun c3 => ?_) (fun c3 => ?_)
    · replace hM := if_t c3 hM
      cases hM
      exact rt_v hx hb hr hlk hP hD hS rfl dX8_moreCells_54
    · replace hM := if_f c3 hM
      refine lv_aload_n hx hb dX8_moreCells_44 rfl (lv_at hl 0 rfl) ?_
      refine lv_sipush (v := 154) hx hb dX8_moreCells_45 (by decide) ?_
      refine lv_sipush (v := 153) hx hb dX8_moreCells_48 (by decide) ?_
      obtain ⟨r4, hcr4, hM⟩ := ob_use hM
      refine cl_V (As := [.int 154, .int 153]) (rest := []) (wM_CXLNTU cI ad o_X o_L o_N o_T r4 o_O o_E o_Q o_V o_I o_C) [] ⟨hx, hb, hml, hown, hts⟩ (c_Model_push2 l D cI sd ad o_C o_X o_L o_N o_T o_O o_E o_Q o_V o_I o_U 154 153 r4 hcr4) (cwV2 hts q1257 mvX8_push2 rfl rfl ⟨(Nat.le_of_ble_eq_true rfl), (Nat.le_of_ble_eq_true rfl)⟩) hK hE hA hP hD hS 0 (T := TX8) (N := 48) (ci := 8) rfl rfl [0, 15] rfl (by decide) rfl rfl rfl rfl rfl rfl hl.1 (Nat.le_of_ble_eq_true rfl) dX8_moreCells_51 ⟨Nat.zero_le _, Nat.zero_le _⟩ (fun H locs hP hD hS => ?_)
      cases hM
      exact rt_v hx hb hr hlk hP hD hS rfl dX8_moreCells_54
  · replace hM := if_t c1 hM
    refine lv_aload_n hx hb dX8_moreCells_9 rfl (lv_at hl 0 rfl) ?_
    refine lv_bipush (v := 29) hx hb dX8_moreCells_10 (by decide) ?_
    refine lv_aload_n hx hb dX8_moreCells_12 rfl (lv_at hl 0 rfl) ?_
    refine va_get (D := D) (ci := 8) (v := .int o_L.1) (C := RX8) (T := TX8) (N := 48) hx hb hts layX8 hown hK hP 0 rfl rfl 6 (by decide) (hts _ (inA q984)) (fun _ h9 => h9) rfl dX8_moreCells_13 ?_
    refine lv_iconst (v := 0) hx hb dX8_moreCells_16 (by decide) ?_
    obtain ⟨r5, hcr5, hM⟩ := ob_use hM
    refine cl_V (As := [.int 29, .int o_L.1, .int 0]) (rest := []) (wM_CXLNTU cI ad o_X o_L o_N r5 o_U o_O o_E o_Q o_V o_I o_C) [] ⟨hx, hb, hml, hown, hts⟩ (c_Model_leaf l D cI sd ad o_C o_X o_L o_N o_U o_O o_E o_Q o_V o_I o_T 29 o_L.1 0 r5 hcr5) (cwV2 hts q1277 mvX8_leaf rfl rfl ⟨(Nat.le_of_ble_eq_true rfl), (Nat.le_of_ble_eq_true rfl)⟩) hK hE hA hP hD hS 0 (T := TX8) (N := 48) (ci := 8) rfl rfl [0, 8, 9, 10, 11, 12, 13, 14] rfl (by decide) (mrgE rfl rfl) rfl rfl rfl rfl rfl hl.1 (Nat.le_of_ble_eq_true rfl) dX8_moreCells_17 ⟨Nat.zero_le _, Nat.zero_le _⟩ (fun H locs hP hD hS => ?_)
    refine lv_aload_n hx hb dX8_moreCells_20 rfl (lv_at hl 0 rfl) ?_
    refine lv_sipush (v := 154) hx hb dX8_moreCells_21 (by decide) ?_
    refine lv_sipush (v := 153) hx hb dX8_moreCells_24 (by decide) ?_
    obtain ⟨r6, hcr6, hM⟩ := ob_use hM
    refine cl_V (As := [.int 154, .int 153]) (rest := []) (wM_CXLNTU cI ad o_X o_L o_N r5 r6 o_O o_E o_Q o_V o_I o_C) [] ⟨hx, hb, hml, hown, hts⟩ (c_Model_push2 l D cI sd ad o_C o_X o_L o_N r5 o_O o_E o_Q o_V o_I o_U 154 153 r6 hcr6) (cwV2 hts q1257 mvX8_push2 rfl rfl ⟨(Nat.le_of_ble_eq_true rfl), (Nat.le_of_ble_eq_true rfl)⟩) hK hE hA hP hD hS 0 (T := TX8) (N := 48) (ci := 8) rfl rfl [0, 15] rfl (by decide) rfl rfl rfl rfl rfl rfl hl.1 (Nat.le_of_ble_eq_true rfl) dX8_moreCells_27 ⟨Nat.zero_le _, Nat.zero_le _⟩ (fun H locs hP hD hS => ?_)
    refine lv_aload_n hx hb dX8_moreCells_30 rfl (lv_at hl 0 rfl) ?_
    obtain ⟨r7, hcr7, hM⟩ := ob_use hM
    refine cl_V (As := []) (rest := []) (wM_CXLNTU cI ad o_X r7.1 r7.2 r5 r6 o_O o_E o_Q o_V o_I o_C) [] ⟨hx, hb, hml, hown, hts⟩ (c_Model_step l D cI sd ad r5 r6 o_O o_E o_Q o_V o_I o_C o_X o_L o_N r7 hcr7) (cwV2 hts q1151 mvX8_step rfl rfl ⟨(Nat.le_of_ble_eq_true rfl), (Nat.le_of_ble_eq_true rfl)⟩) hK hE hA hP hD hS 0 (T := TX8) (N := 48) (ci := 8) rfl rfl [0, 1, 2, 3, 4, 5, 6, 7] rfl (by decide) (mrgE rfl rfl) rfl rfl rfl rfl rfl hl.1 (Nat.le_of_ble_eq_true rfl) dX8_moreCells_31 ⟨Nat.zero_le _, Nat.zero_le _⟩ (fun H locs hP hD hS => ?_)
    refine lv_goto (tgt := 54) hx hb dX8_moreCells_34 (by decide) ?_
    cases hM
    exact rt_v hx hb hr hlk hP hD hS rfl dX8_moreCells_54

set_option maxHeartbeats 4000000 in
set_option maxRecDepth 100000 in
theorem c_Model_actBlock (l : Launch) (D : va_G) (cI : ClassId) (sd : Nat → Nat) (ad : Nat → Nat) (o_E : S_ME) (o_Q : S_MQ) (o_V : S_MV) (o_I : S_MI) (o_C : S_MC) (o_X : S_MX) (o_L : S_ML) (o_N : S_MN) (o_T : S_MT) (o_U : S_MU) (o_O : S_MO) (a1 : Int32) (res : S_ML × S_MN × S_MT × S_MU × S_MO) (hM : f_Model_actBlock o_C o_X o_L o_N o_T o_U o_O a1 = some res) : Ctr l D cI sd yX8_actBlock (wsM yX8_actBlock cX8_actBlock 2 (Option.none : Option Jvm.ClassFile.FieldType)) { frames := 7, cells := 0, slots := 0, locals := 153 } [.ref (ad 100), .int a1] (wM_CXLNTUO cI ad o_X o_L o_N o_T o_U o_O o_E o_Q o_V o_I o_C) (wM_CXLNTUO cI ad o_X res.1 res.2.1 res.2.2.1 res.2.2.2.1 res.2.2.2.2 o_E o_Q o_V o_I o_C) none := by
  refine Ctr.of (cc := cX8_actBlock) (maxL := 2) (own := RX8) (by decide +kernel) rfl rfl (Nat.le_of_ble_eq_true rfl) ?_
  intro p e s m below meth c A ls hx hb hr hml hown hts hlk hK hE hA hP hD hS hl
  have hl : lv_has ls 2 [(0, .ref (ad 100)), (1, .int a1)] := hl
  unfold f_Model_actBlock at hM
  refine lv_iload_n hx hb dX8_actBlock_0 rfl (lv_at hl 1 rfl) ?_
  by_cases c1 : a1 = 100
  · replace hM := if_t c1 hM
    refine lv_tableIn (tgt := 72) hx hb dX8_actBlock_1 (by rw [c1]; decide) (by rw [c1]; decide) (by rw [c1]; rfl) (by decide) ?_
    refine lv_aload_n hx hb dX8_actBlock_72 rfl (lv_at hl 0 rfl) ?_
    obtain ⟨r2, hcr2, hM⟩ := ob_use hM
    refine cl_V (As := []) (rest := []) (wM_CXLNTUO cI ad o_X r2.1 r2.2.1 r2.2.2.1 r2.2.2.2 o_O o_E o_Q o_V o_I o_C) [] ⟨hx, hb, hml, hown, hts⟩ (c_Model_blocks l D cI sd ad o_O o_E o_Q o_V o_I o_C o_X o_L o_N o_T o_U r2 hcr2) (cwV2 hts q1241 mvX8_blocks rfl rfl ⟨(Nat.le_of_ble_eq_true rfl), (Nat.le_of_ble_eq_true rfl)⟩) hK hE hA hP hD hS 0 (T := TX8) (N := 48) (ci := 8) rfl rfl [0, 1, 2, 3, 4, 5, 6, 7, 8, 9, 10, 11, 12, 13, 14, 15] (rng_hi (n := 16) rfl rfl) (by decide) (rng_rep (n := 16) rfl rfl rfl) rfl rfl rfl rfl rfl hl.1 (Nat.le_of_ble_eq_true rfl) dX8_actBlock_73 ⟨Nat.zero_le _, Nat.zero_le _⟩ (fun H locs hP hD hS => ?_)
    refine lv_goto (tgt := 211) hx hb dX8_actBlock_76 (by decide) ?_
    cases hM
    exact rt_v hx hb hr hlk hP hD hS rfl dX8_actBlock_211
  replace hM := if_f c1 hM
  by_cases c3 : a1 = 101
  · replace hM := if_t c3 hM
    refine lv_tableIn (tgt := 79) hx hb dX8_actBlock_1 (by rw [c3]; decide) (by rw [c3]; decide) (by rw [c3]; rfl) (by decide) ?_
    refine lv_aload_n hx hb dX8_actBlock_79 rfl (lv_at hl 0 rfl) ?_
    obtain ⟨r4, hcr4, hM⟩ := ob_use hM
    refine cl_V (As := []) (rest := []) (wM_CXLNTUO cI ad o_X o_L o_N r4 o_U o_O o_E o_Q o_V o_I o_C) [] ⟨hx, hb, hml, hown, hts⟩ (c_Model_up l D cI sd ad o_C o_X o_L o_N o_U o_O o_E o_Q o_V o_I o_T r4 hcr4) (cwV2 hts q1261 mvX8_up rfl rfl ⟨(Nat.le_of_ble_eq_true rfl), (Nat.le_of_ble_eq_true rfl)⟩) hK hE hA hP hD hS 0 (T := TX8) (N := 48) (ci := 8) rfl rfl [0, 8, 9, 10, 11, 12, 13, 14] rfl (by decide) (mrgE rfl rfl) rfl rfl rfl rfl rfl hl.1 (Nat.le_of_ble_eq_true rfl) dX8_actBlock_80 ⟨Nat.zero_le _, Nat.zero_le _⟩ (fun H locs hP hD hS => ?_)
    refine lv_goto (tgt := 211) hx hb dX8_actBlock_83 (by decide) ?_
    cases hM
    exact rt_v hx hb hr hlk hP hD hS rfl dX8_actBlock_211
  replace hM := if_f c3 hM
  by_cases c5 : a1 = 102
  · replace hM := if_t c5 hM
    refine lv_tableIn (tgt := 86) hx hb dX8_actBlock_1 (by rw [c5]; decide) (by rw [c5]; decide) (by rw [c5]; rfl) (by decide) ?_
    refine lv_aload_n hx hb dX8_actBlock_86 rfl (lv_at hl 0 rfl) ?_
    obtain ⟨r6, hcr6, hM⟩ := ob_use hM
    refine cl_V (As := []) (rest := []) (wM_CXLNTUO cI ad o_X r6.1 r6.2.1 r6.2.2.1 r6.2.2.2 o_O o_E o_Q o_V o_I o_C) [] ⟨hx, hb, hml, hown, hts⟩ (c_Model_body l D cI sd ad o_O o_E o_Q o_V o_I o_C o_X o_L o_N o_T o_U r6 hcr6) (cwV2 hts q1265 mvX8_body rfl rfl ⟨(Nat.le_of_ble_eq_true rfl), (Nat.le_of_ble_eq_true rfl)⟩) hK hE hA hP hD hS 0 (T := TX8) (N := 48) (ci := 8) rfl rfl [0, 1, 2, 3, 4, 5, 6, 7, 8, 9, 10, 11, 12, 13, 14, 15] (rng_hi (n := 16) rfl rfl) (by decide) (rng_rep (n := 16) rfl rfl rfl) rfl rfl rfl rfl rfl hl.1 (Nat.le_of_ble_eq_true rfl) dX8_actBlock_87 ⟨Nat.zero_le _, Nat.zero_le _⟩ (fun H locs hP hD hS => ?_)
    refine lv_goto (tgt := 211) hx hb dX8_actBlock_90 (by decide) ?_
    cases hM
    exact rt_v hx hb hr hlk hP hD hS rfl dX8_actBlock_211
  replace hM := if_f c5 hM
  by_cases c7 : a1 = 103
  · replace hM := if_t c7 hM
    refine lv_tableIn (tgt := 93) hx hb dX8_actBlock_1 (by rw [c7]; decide) (by rw [c7]; decide) (by rw [c7]; rfl) (by decide) ?_
    refine lv_aload_n hx hb dX8_actBlock_93 rfl (lv_at hl 0 rfl) ?_
    obtain ⟨r8, hcr8, hM⟩ := ob_use hM
    refine cl_V (As := []) (rest := []) (wM_CXLNTUO cI ad o_X r8.1 r8.2.1 r8.2.2.1 r8.2.2.2 o_O o_E o_Q o_V o_I o_C) [] ⟨hx, hb, hml, hown, hts⟩ (c_Model_sections l D cI sd ad o_O o_E o_Q o_V o_I o_C o_X o_L o_N o_T o_U r8 hcr8) (cwV2 hts q1269 mvX8_sections rfl rfl ⟨(Nat.le_of_ble_eq_true rfl), (Nat.le_of_ble_eq_true rfl)⟩) hK hE hA hP hD hS 0 (T := TX8) (N := 48) (ci := 8) rfl rfl [0, 1, 2, 3, 4, 5, 6, 7, 8, 9, 10, 11, 12, 13, 14, 15] (rng_hi (n := 16) rfl rfl) (by decide) (rng_rep (n := 16) rfl rfl rfl) rfl rfl rfl rfl rfl hl.1 (Nat.le_of_ble_eq_true rfl) dX8_actBlock_94 ⟨Nat.zero_le _, Nat.zero_le _⟩ (fun H locs hP hD hS => ?_)
    refine lv_goto (tgt := 211) hx hb dX8_actBlock_97 (by decide) ?_
    cases hM
    exact rt_v hx hb hr hlk hP hD hS rfl dX8_actBlock_211
  replace hM := if_f c7 hM
  by_cases c9 : a1 = 104
  · replace hM := if_t c9 hM
    refine lv_tableIn (tgt := 100) hx hb dX8_actBlock_1 (by rw [c9]; decide) (by rw [c9]; decide) (by rw [c9]; rfl) (by decide) ?_
    refine lv_aload_n hx hb dX8_actBlock_100 rfl (lv_at hl 0 rfl) ?_
    obtain ⟨r10, hcr10, hM⟩ := ob_use hM
    refine cl_V (As := []) (rest := []) (wM_CXLNTUO cI ad o_X r10.1 r10.2.1 r10.2.2 o_U o_O o_E o_Q o_V o_I o_C) [] ⟨hx, hb, hml, hown, hts⟩ (c_Model_simple l D cI sd ad o_U o_O o_E o_Q o_V o_I o_C o_X o_L o_N o_T r10 hcr10) (cwV2 hts q1273 mvX8_simple rfl rfl ⟨(Nat.le_of_ble_eq_true rfl), (Nat.le_of_ble_eq_true rfl)⟩) hK hE hA hP hD hS 0 (T := TX8) (N := 48) (ci := 8) rfl rfl [0, 1, 2, 3, 4, 5, 6, 7, 8, 9, 10, 11, 12, 13, 14] rfl (by decide) (mrgE rfl rfl) rfl rfl rfl rfl rfl hl.1 (Nat.le_of_ble_eq_true rfl) dX8_actBlock_101 ⟨Nat.zero_le _, Nat.zero_le _⟩ (fun H locs hP hD hS => ?_)
    refine lv_goto (tgt := 211) hx hb dX8_actBlock_104 (by decide) ?_
    cases hM
    exact rt_v hx hb hr hlk hP hD hS rfl dX8_actBlock_211
  replace hM := if_f c9 hM
  by_cases c11 : a1 = 105
  · replace hM := if_t c11 hM
    refine lv_tableIn (tgt := 107) hx hb dX8_actBlock_1 (by rw [c11]; decide) (by rw [c11]; decide) (by rw [c11]; rfl) (by decide) ?_
    refine lv_aload_n hx hb dX8_actBlock_107 rfl (lv_at hl 0 rfl) ?_
    obtain ⟨r12, hcr12, hM⟩ := ob_use hM
    refine cl_V (As := []) (rest := []) (wM_CXLNTUO cI ad o_X r12.1 r12.2.1 r12.2.2 o_U o_O o_E o_Q o_V o_I o_C) [] ⟨hx, hb, hml, hown, hts⟩ (c_Model_title l D cI sd ad o_U o_O o_E o_Q o_V o_I o_C o_X o_L o_N o_T r12 hcr12) (cwV2 hts q1281 mvX8_title rfl rfl ⟨(Nat.le_of_ble_eq_true rfl), (Nat.le_of_ble_eq_true rfl)⟩) hK hE hA hP hD hS 0 (T := TX8) (N := 48) (ci := 8) rfl rfl [0, 1, 2, 3, 4, 5, 6, 7, 8, 9, 10, 11, 12, 13, 14] rfl (by decide) (mrgE rfl rfl) rfl rfl rfl rfl rfl hl.1 (Nat.le_of_ble_eq_true rfl) dX8_actBlock_108 ⟨Nat.zero_le _, Nat.zero_le _⟩ (fun H locs hP hD hS => ?_)
    refine lv_goto (tgt := 211) hx hb dX8_actBlock_111 (by decide) ?_
    cases hM
    exact rt_v hx hb hr hlk hP hD hS rfl dX8_actBlock_211
  replace hM := if_f c11 hM
  by_cases c13 : a1 = 106
  · replace hM := if_t c13 hM
    refine lv_tableIn (tgt := 114) hx hb dX8_actBlock_1 (by rw [c13]; decide) (by rw [c13]; decide) (by rw [c13]; rfl) (by decide) ?_
    refine lv_aload_n hx hb dX8_actBlock_114 rfl (lv_at hl 0 rfl) ?_
    obtain ⟨r14, hcr14, hM⟩ := ob_use hM
    refine cl_V (As := []) (rest := []) (wM_CXLNTUO cI ad o_X o_L o_N r14.1 r14.2 o_O o_E o_Q o_V o_I o_C) [] ⟨hx, hb, hml, hown, hts⟩ (c_Model_declarations l D cI sd ad o_C o_X o_N o_O o_E o_Q o_V o_I o_L o_T o_U r14 hcr14) (cwV2 hts q1285 mvX8_declarations rfl rfl ⟨(Nat.le_of_ble_eq_true rfl), (Nat.le_of_ble_eq_true rfl)⟩) hK hE hA hP hD hS 0 (T := TX8) (N := 48) (ci := 8) rfl rfl [0, 8, 9, 10, 11, 12, 13, 14, 15] rfl (by decide) (mrgE rfl rfl) rfl rfl rfl rfl rfl hl.1 (Nat.le_of_ble_eq_true rfl) dX8_actBlock_115 ⟨Nat.zero_le _, Nat.zero_le _⟩ (fun H locs hP hD hS => ?_)
    refine lv_goto (tgt := 211) hx hb dX8_actBlock_118 (by decide) ?_
    cases hM
    exact rt_v hx hb hr hlk hP hD hS rfl dX8_actBlock_211
  replace hM := if_f c13 hM
  by_cases c15 : a1 = 107
  · replace hM := if_t c15 hM
    refine lv_tableIn (tgt := 121) hx hb dX8_actBlock_1 (by rw [c15]; decide) (by rw [c15]; decide) (by rw [c15]; rfl) (by decide) ?_
    refine lv_aload_n hx hb dX8_actBlock_121 rfl (lv_at hl 0 rfl) ?_
    refine lv_bipush (v := 111) hx hb dX8_actBlock_122 (by decide) ?_
    obtain ⟨r16, hcr16, hM⟩ := ob_use hM
    refine cl_V (As := [.int 111]) (rest := []) (wM_CXLNTUO cI ad o_X o_L o_N o_T r16 o_O o_E o_Q o_V o_I o_C) [] ⟨hx, hb, hml, hown, hts⟩ (c_Model_push l D cI sd ad o_C o_X o_L o_N o_T o_O o_E o_Q o_V o_I o_U 111 r16 hcr16) (cwV2 hts q1147 mvX8_push rfl rfl ⟨(Nat.le_of_ble_eq_true rfl), (Nat.le_of_ble_eq_true rfl)⟩) hK hE hA hP hD hS 0 (T := TX8) (N := 48) (ci := 8) rfl rfl [0, 15] rfl (by decide) rfl rfl rfl rfl rfl rfl hl.1 (Nat.le_of_ble_eq_true rfl) dX8_actBlock_124 ⟨Nat.zero_le _, Nat.zero_le _⟩ (fun H locs hP hD hS => ?_)
    refine lv_aload_n hx hb dX8_actBlock_127 rfl (lv_at hl 0 rfl) ?_
    obtain ⟨r17, hcr17, hM⟩ := ob_use hM
    refine cl_V (As := []) (rest := []) (wM_CXLNTUO cI ad o_X r17.1 r17.2.1 r17.2.2 r16 o_O o_E o_Q o_V o_I o_C) [] ⟨hx, hb, hml, hown, hts⟩ (c_Model_aName l D cI sd ad r16 o_O o_E o_Q o_V o_I o_C o_X o_L o_N o_T r17 hcr17) (cwV2 hts q1289 mvX8_aName rfl rfl ⟨(Nat.le_of_ble_eq_true rfl), (Nat.le_of_ble_eq_true rfl)⟩) hK hE hA hP hD hS 0 (T := TX8) (N := 48) (ci := 8) rfl rfl [0, 1, 2, 3, 4, 5, 6, 7, 8, 9, 10, 11, 12, 13, 14] rfl (by decide) (mrgE rfl rfl) rfl rfl rfl rfl rfl hl.1 (Nat.le_of_ble_eq_true rfl) dX8_actBlock_128 ⟨Nat.zero_le _, Nat.zero_le _⟩ (fun H locs hP hD hS => ?_)
    refine lv_goto (tgt := 211) hx hb dX8_actBlock_131 (by decide) ?_
    cases hM
    exact rt_v hx hb hr hlk hP hD hS rfl dX8_actBlock_211
  replace hM := if_f c15 hM
  by_cases c18 : a1 = 108
  · replace hM := if_t c18 hM
    refine lv_tableIn (tgt := 134) hx hb dX8_actBlock_1 (by rw [c18]; decide) (by rw [c18]; decide) (by rw [c18]; rfl) (by decide) ?_
    refine lv_aload_n hx hb dX8_actBlock_134 rfl (lv_at hl 0 rfl) ?_
    refine lv_bipush (v := 10) hx hb dX8_actBlock_135 (by decide) ?_
    refine lv_iconst (v := (-1)) hx hb dX8_actBlock_137 (by decide) ?_
    refine lv_bipush (v := 112) hx hb dX8_actBlock_138 (by decide) ?_
    obtain ⟨r19, hcr19, hM⟩ := ob_use hM
    refine cl_V (As := [.int 10, .int (-1), .int 112]) (rest := []) (wM_CXLNTUO cI ad o_X r19.1 r19.2.1 o_T r19.2.2 o_O o_E o_Q o_V o_I o_C) [] ⟨hx, hb, hml, hown, hts⟩ (c_Model_perhaps l D cI sd ad o_T o_O o_E o_Q o_V o_I o_C o_X o_L o_N o_U 10 (-1) 112 r19 hcr19) (cwV2 hts q1293 mvX8_perhaps rfl rfl ⟨(Nat.le_of_ble_eq_true rfl), (Nat.le_of_ble_eq_true rfl)⟩) hK hE hA hP hD hS 0 (T := TX8) (N := 48) (ci := 8) rfl rfl [0, 1, 2, 3, 4, 5, 6, 7, 15] rfl (by decide) (mrgE rfl rfl) rfl rfl rfl rfl rfl hl.1 (Nat.le_of_ble_eq_true rfl) dX8_actBlock_140 ⟨Nat.zero_le _, Nat.zero_le _⟩ (fun H locs hP hD hS => ?_)
    refine lv_goto (tgt := 211) hx hb dX8_actBlock_143 (by decide) ?_
    cases hM
    exact rt_v hx hb hr hlk hP hD hS rfl dX8_actBlock_211
  replace hM := if_f c18 hM
  by_cases c20 : a1 = 109
  · replace hM := if_t c20 hM
    refine lv_tableIn (tgt := 146) hx hb dX8_actBlock_1 (by rw [c20]; decide) (by rw [c20]; decide) (by rw [c20]; rfl) (by decide) ?_
    refine lv_aload_n hx hb dX8_actBlock_146 rfl (lv_at hl 0 rfl) ?_
    obtain ⟨r21, hcr21, hM⟩ := ob_use hM
    refine cl_V (As := []) (rest := []) (wM_CXLNTUO cI ad o_X r21.1 r21.2.1 r21.2.2.1 r21.2.2.2 o_O o_E o_Q o_V o_I o_C) [] ⟨hx, hb, hml, hown, hts⟩ (c_Model_type l D cI sd ad o_O o_E o_Q o_V o_I o_C o_X o_L o_N o_T o_U r21 hcr21) (cwV2 hts q1297 mvX8_type rfl rfl ⟨(Nat.le_of_ble_eq_true rfl), (Nat.le_of_ble_eq_true rfl)⟩) hK hE hA hP hD hS 0 (T := TX8) (N := 48) (ci := 8) rfl rfl [0, 1, 2, 3, 4, 5, 6, 7, 8, 9, 10, 11, 12, 13, 14, 15] (rng_hi (n := 16) rfl rfl) (by decide) (rng_rep (n := 16) rfl rfl rfl) rfl rfl rfl rfl rfl hl.1 (Nat.le_of_ble_eq_true rfl) dX8_actBlock_147 ⟨Nat.zero_le _, Nat.zero_le _⟩ (fun H locs hP hD hS => ?_)
    refine lv_goto (tgt := 211) hx hb dX8_actBlock_150 (by decide) ?_
    cases hM
    exact rt_v hx hb hr hlk hP hD hS rfl dX8_actBlock_211
  replace hM := if_f c20 hM
  by_cases c22 : a1 = 110
  · replace hM := if_t c22 hM
    refine lv_tableIn (tgt := 153) hx hb dX8_actBlock_1 (by rw [c22]; decide) (by rw [c22]; decide) (by rw [c22]; rfl) (by decide) ?_
    refine lv_aload_n hx hb dX8_actBlock_153 rfl (lv_at hl 0 rfl) ?_
    refine lv_bipush (v := 50) hx hb dX8_actBlock_154 (by decide) ?_
    refine lv_iconst (v := (-1)) hx hb dX8_actBlock_156 (by decide) ?_
    refine lv_bipush (v := 113) hx hb dX8_actBlock_157 (by decide) ?_
    obtain ⟨r23, hcr23, hM⟩ := ob_use hM
    refine cl_V (As := [.int 50, .int (-1), .int 113]) (rest := []) (wM_CXLNTUO cI ad o_X r23.1 r23.2.1 o_T r23.2.2 o_O o_E o_Q o_V o_I o_C) [] ⟨hx, hb, hml, hown, hts⟩ (c_Model_perhaps l D cI sd ad o_T o_O o_E o_Q o_V o_I o_C o_X o_L o_N o_U 50 (-1) 113 r23 hcr23) (cwV2 hts q1293 mvX8_perhaps rfl rfl ⟨(Nat.le_of_ble_eq_true rfl), (Nat.le_of_ble_eq_true rfl)⟩) hK hE hA hP hD hS 0 (T := TX8) (N := 48) (ci := 8) rfl rfl [0, 1, 2, 3, 4, 5, 6, 7, 15] rfl (by decide) (mrgE rfl rfl) rfl rfl rfl rfl rfl hl.1 (Nat.le_of_ble_eq_true rfl) dX8_actBlock_159 ⟨Nat.zero_le _, Nat.zero_le _⟩ (fun H locs hP hD hS => ?_)
    refine lv_goto (tgt := 211) hx hb dX8_actBlock_162 (by decide) ?_
    cases hM
    exact rt_v hx hb hr hlk hP hD hS rfl dX8_actBlock_211
  replace hM := if_f c22 hM
  by_cases c24 : a1 = 111
  · replace hM := if_t c24 hM
    refine lv_tableIn (tgt := 165) hx hb dX8_actBlock_1 (by rw [c24]; decide) (by rw [c24]; decide) (by rw [c24]; rfl) (by decide) ?_
    refine lv_aload_n hx hb dX8_actBlock_165 rfl (lv_at hl 0 rfl) ?_
    refine lv_bipush (v := 59) hx hb dX8_actBlock_166 (by decide) ?_
    refine lv_iconst (v := (-1)) hx hb dX8_actBlock_168 (by decide) ?_
    refine lv_bipush (v := 107) hx hb dX8_actBlock_169 (by decide) ?_
    obtain ⟨r25, hcr25, hM⟩ := ob_use hM
    refine cl_V (As := [.int 59, .int (-1), .int 107]) (rest := []) (wM_CXLNTUO cI ad o_X r25.1 r25.2.1 o_T r25.2.2 o_O o_E o_Q o_V o_I o_C) [] ⟨hx, hb, hml, hown, hts⟩ (c_Model_perhaps l D cI sd ad o_T o_O o_E o_Q o_V o_I o_C o_X o_L o_N o_U 59 (-1) 107 r25 hcr25) (cwV2 hts q1293 mvX8_perhaps rfl rfl ⟨(Nat.le_of_ble_eq_true rfl), (Nat.le_of_ble_eq_true rfl)⟩) hK hE hA hP hD hS 0 (T := TX8) (N := 48) (ci := 8) rfl rfl [0, 1, 2, 3, 4, 5, 6, 7, 15] rfl (by decide) (mrgE rfl rfl) rfl rfl rfl rfl rfl hl.1 (Nat.le_of_ble_eq_true rfl) dX8_actBlock_171 ⟨Nat.zero_le _, Nat.zero_le _⟩ (fun H locs hP hD hS => ?_)
    refine lv_goto (tgt := 211) hx hb dX8_actBlock_174 (by decide) ?_
    cases hM
    exact rt_v hx hb hr hlk hP hD hS rfl dX8_actBlock_211
  replace hM := if_f c24 hM
  by_cases c26 : a1 = 112
  · replace hM := if_t c26 hM
    refine lv_tableIn (tgt := 177) hx hb dX8_actBlock_1 (by rw [c26]; decide) (by rw [c26]; decide) (by rw [c26]; rfl) (by decide) ?_
    refine lv_aload_n hx hb dX8_actBlock_177 rfl (lv_at hl 0 rfl) ?_
    refine lv_bipush (v := 7) hx hb dX8_actBlock_178 (by decide) ?_
    refine lv_aload_n hx hb dX8_actBlock_180 rfl (lv_at hl 0 rfl) ?_
    refine va_get (D := D) (ci := 8) (v := .int o_L.1) (C := RX8) (T := TX8) (N := 48) hx hb hts layX8 hown hK hP 0 rfl rfl 6 (by decide) (hts _ (inA q984)) (fun _ h9 => h9) rfl dX8_actBlock_181 ?_
    refine lv_aload_n hx hb dX8_actBlock_184 rfl (lv_at hl 0 rfl) ?_
    refine va_get (D := D) (ci := 8) (v := .int o_L.2.2.1) (C := RX8) (T := TX8) (N := 48) hx hb hts layX8 hown hK hP 0 rfl rfl 8 (by decide) (hts _ (inA q986)) (fun _ h9 => h9) rfl dX8_actBlock_185 ?_
    obtain ⟨r27, hcr27, hM⟩ := ob_use hM
    refine cl_V (As := [.int 7, .int o_L.1, .int o_L.2.2.1]) (rest := []) (wM_CXLNTUO cI ad o_X o_L o_N r27 o_U o_O o_E o_Q o_V o_I o_C) [] ⟨hx, hb, hml, hown, hts⟩ (c_Model_leaf l D cI sd ad o_C o_X o_L o_N o_U o_O o_E o_Q o_V o_I o_T 7 o_L.1 o_L.2.2.1 r27 hcr27) (cwV2 hts q1277 mvX8_leaf rfl rfl ⟨(Nat.le_of_ble_eq_true rfl), (Nat.le_of_ble_eq_true rfl)⟩) hK hE hA hP hD hS 0 (T := TX8) (N := 48) (ci := 8) rfl rfl [0, 8, 9, 10, 11, 12, 13, 14] rfl (by decide) (mrgE rfl rfl) rfl rfl rfl rfl rfl hl.1 (Nat.le_of_ble_eq_true rfl) dX8_actBlock_188 ⟨Nat.zero_le _, Nat.zero_le _⟩ (fun H locs hP hD hS => ?_)
    refine lv_aload_n hx hb dX8_actBlock_191 rfl (lv_at hl 0 rfl) ?_
    refine lv_bipush (v := 82) hx hb dX8_actBlock_192 (by decide) ?_
    obtain ⟨r28, hcr28, hM⟩ := ob_use hM
    refine cl_V (As := [.int 82]) (rest := []) (wM_CXLNTUO cI ad o_X r28.1 r28.2 r27 o_U o_O o_E o_Q o_V o_I o_C) [] ⟨hx, hb, hml, hown, hts⟩ (c_Model_pass l D cI sd ad r27 o_U o_O o_E o_Q o_V o_I o_C o_X o_L o_N 82 r28 hcr28) (cwV2 hts q1229 mvX8_pass rfl rfl ⟨(Nat.le_of_ble_eq_true rfl), (Nat.le_of_ble_eq_true rfl)⟩) hK hE hA hP hD hS 0 (T := TX8) (N := 48) (ci := 8) rfl rfl [0, 1, 2, 3, 4, 5, 6, 7] rfl (by decide) (mrgE rfl rfl) rfl rfl rfl rfl rfl hl.1 (Nat.le_of_ble_eq_true rfl) dX8_actBlock_194 ⟨Nat.zero_le _, Nat.zero_le _⟩ (fun H locs hP hD hS => ?_)
    refine lv_goto (tgt := 211) hx hb dX8_actBlock_197 (by decide) ?_
    cases hM
    exact rt_v hx hb hr hlk hP hD hS rfl dX8_actBlock_211
  replace hM := if_f c26 hM
  by_cases c29 : a1 = 113
  · replace hM := if_t c29 hM
    refine lv_tableIn (tgt := 200) hx hb dX8_actBlock_1 (by rw [c29]; decide) (by rw [c29]; decide) (by rw [c29]; rfl) (by decide) ?_
    refine lv_aload_n hx hb dX8_actBlock_200 rfl (lv_at hl 0 rfl) ?_
    obtain ⟨r30, hcr30, hM⟩ := ob_use hM
    refine cl_V (As := []) (rest := []) (wM_CXLNTUO cI ad o_X r30.1 r30.2.1 r30.2.2.1 r30.2.2.2.1 r30.2.2.2.2 o_E o_Q o_V o_I o_C) [] ⟨hx, hb, hml, hown, hts⟩ (c_Model_constant l D cI sd ad o_E o_Q o_V o_I o_C o_X o_L o_N o_T o_U o_O r30 hcr30) (cwV2 hts q1301 mvX8_constant rfl rfl ⟨(Nat.le_of_ble_eq_true rfl), (Nat.le_of_ble_eq_true rfl)⟩) hK hE hA hP hD hS 0 (T := TX8) (N := 48) (ci := 8) rfl rfl [0, 1, 2, 3, 4, 5, 6, 7, 8, 9, 10, 11, 12, 13, 14, 15] (rng_hi (n := 16) rfl rfl) (by decide) (rng_rep (n := 16) rfl rfl rfl) rfl rfl rfl rfl rfl hl.1 (Nat.le_of_ble_eq_true rfl) dX8_actBlock_201 ⟨Nat.zero_le _, Nat.zero_le _⟩ (fun H locs hP hD hS => ?_)
    refine lv_goto (tgt := 211) hx hb dX8_actBlock_204 (by decide) ?_
    cases hM
    exact rt_v hx hb hr hlk hP hD hS rfl dX8_actBlock_211
  replace hM := if_f c29 hM
  refine lv_tableOut (tgt := 207) hx hb dX8_actBlock_1 (by have := lv_neT c1 (show (100 : Int32).toInt = 100 by decide); have := lv_neT c3 (show (101 : Int32).toInt = 101 by decide); have := lv_neT c5 (show (102 : Int32).toInt = 102 by decide); have := lv_neT c7 (show (103 : Int32).toInt = 103 by decide); have := lv_neT c9 (show (104 : Int32).toInt = 104 by decide); have := lv_neT c11 (show (105 : Int32).toInt = 105 by decide); have := lv_neT c13 (show (106 : Int32).toInt = 106 by decide); have := lv_neT c15 (show (107 : Int32).toInt = 107 by decide); have := lv_neT c18 (show (108 : Int32).toInt = 108 by decide); have := lv_neT c20 (show (109 : Int32).toInt = 109 by decide); have := lv_neT c22 (show (110 : Int32).toInt = 110 by decide); have := lv_neT c24 (show (111 : Int32).toInt = 111 by decide); have := lv_neT c26 (show (112 : Int32).toInt = 112 by decide); have := lv_neT c29 (show (113 : Int32).toInt = 113 by decide); omega) (by decide) ?_
  refine lv_aload_n hx hb dX8_actBlock_207 rfl (lv_at hl 0 rfl) ?_
  obtain ⟨r31, hcr31, hM⟩ := ob_use hM
  refine cl_V (As := []) (rest := []) (wM_CXLNTUO cI ad o_X r31.1 r31.2.1 r31.2.2 o_U o_O o_E o_Q o_V o_I o_C) [] ⟨hx, hb, hml, hown, hts⟩ (c_Model_lessNumber l D cI sd ad o_U o_E o_Q o_V o_I o_C o_X o_L o_N o_T o_O r31 hcr31) (cwV2 hts q1305 mvX8_lessNumber rfl rfl ⟨(Nat.le_of_ble_eq_true rfl), (Nat.le_of_ble_eq_true rfl)⟩) hK hE hA hP hD hS 0 (T := TX8) (N := 48) (ci := 8) rfl rfl [0, 1, 2, 3, 4, 5, 6, 7, 8, 9, 10, 11, 12, 13, 14] rfl (by decide) (mrgE rfl rfl) rfl rfl rfl rfl rfl hl.1 (Nat.le_of_ble_eq_true rfl) dX8_actBlock_208 ⟨Nat.zero_le _, Nat.zero_le _⟩ (fun H locs hP hD hS => ?_)
  cases hM
  exact rt_v hx hb hr hlk hP hD hS rfl dX8_actBlock_211

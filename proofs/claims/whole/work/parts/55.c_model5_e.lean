set_option maxHeartbeats 4000000 in
set_option maxRecDepth 100000 in
theorem c_Model_read (l : Launch) (D : va_G) (cI : ClassId) (sd : Nat → Nat) (ad : Nat → Nat) (o_V : S_MV) (o_I : S_MI) (o_C : S_MC) (o_X : S_MX) (o_L : S_ML) (o_N : S_MN) (o_T : S_MT) (o_U : S_MU) (o_O : S_MO) (o_E : S_ME) (o_Q : S_MQ) (res : Int32 × S_ML × S_MN × S_MT × S_MU × S_MO × S_ME × S_MQ) (hM : f_Model_read o_C o_X o_L o_N o_T o_U o_O o_E o_Q = some res) : Ctr l D cI sd yX8_read (wsM yX8_read cX8_read 1 (Option.some Jvm.ClassFile.FieldType.int)) { frames := 11, cells := 0, slots := 0, locals := 237 } [.ref (ad 100)] (wM_CXLNTUOEQ cI ad o_X o_L o_N o_T o_U o_O o_E o_Q o_V o_I o_C) (wM_CXLNTUOEQ cI ad o_X res.2.1 res.2.2.1 res.2.2.2.1 res.2.2.2.2.1 res.2.2.2.2.2.1 res.2.2.2.2.2.2.1 res.2.2.2.2.2.2.2 o_V o_I o_C) (some (.int res.1)) := by
  refine Ctr.of (cc := cX8_read) (maxL := 1) (own := RX8) (by decide +kernel) rfl rfl (Nat.le_of_ble_eq_true rfl) ?_
  intro p e s m below meth c A ls hx hb hr hml hown hts hlk hK hE hA hP hD hS hl
  have hl : lv_has ls 1 [(0, .ref (ad 100))] := hl
  unfold f_Model_read at hM
  refine lv_aload_n hx hb dX8_read_0 rfl (lv_at hl 0 rfl) ?_
  refine lv_iconst (v := 0) hx hb dX8_read_1 (by decide) ?_
  refine va_put (D := D) (ci := 8) (v := .int 0) (ty := .int) (C := RX8) (T := TX8) (N := 48) hx hb hts layX8 tyX8 tyX8_ok nmX8 hown hK hP hD hS 0 rfl rfl 11 (by decide) (hts _ (inA q989)) (fun _ h9 => h9) rfl (by decide +kernel) rfl rfl (Nat.le_of_ble_eq_true rfl) dX8_read_2 (fun H locs hP hD hS => ?_)
  have hP : va_P D vwCl (wM_CXLNTUOEQ cI ad o_X (o_L.1, o_L.2.1, o_L.2.2.1, o_L.2.2.2.1, o_L.2.2.2.2.1, 0, o_L.2.2.2.2.2.2) o_N o_T o_U o_O o_E o_Q o_V o_I o_C) H := hP
  have hD : va_D A (wM_CXLNTUOEQ cI ad o_X (o_L.1, o_L.2.1, o_L.2.2.1, o_L.2.2.2.1, o_L.2.2.2.2.1, 0, o_L.2.2.2.2.2.2) o_N o_T o_U o_O o_E o_Q o_V o_I o_C) := hD
  refine lv_aload_n hx hb dX8_read_5 rfl (lv_at hl 0 rfl) ?_
  refine lv_iconst (v := (-1)) hx hb dX8_read_6 (by decide) ?_
  refine va_put (D := D) (ci := 8) (v := .int (-1)) (ty := .int) (C := RX8) (T := TX8) (N := 48) hx hb hts layX8 tyX8 tyX8_ok nmX8 hown hK hP hD hS 0 rfl rfl 12 (by decide) (hts _ (inA q990)) (fun _ h9 => h9) rfl (by decide +kernel) rfl rfl (Nat.le_of_ble_eq_true rfl) dX8_read_7 (fun H locs hP hD hS => ?_)
  have hP : va_P D vwCl (wM_CXLNTUOEQ cI ad o_X (o_L.1, o_L.2.1, o_L.2.2.1, o_L.2.2.2.1, o_L.2.2.2.2.1, 0, (-1)) o_N o_T o_U o_O o_E o_Q o_V o_I o_C) H := hP
  have hD : va_D A (wM_CXLNTUOEQ cI ad o_X (o_L.1, o_L.2.1, o_L.2.2.1, o_L.2.2.2.1, o_L.2.2.2.2.1, 0, (-1)) o_N o_T o_U o_O o_E o_Q o_V o_I o_C) := hD
  refine lv_aload_n hx hb dX8_read_10 rfl (lv_at hl 0 rfl) ?_
  refine lv_iconst (v := 0) hx hb dX8_read_11 (by decide) ?_
  refine va_put (D := D) (ci := 8) (v := .int 0) (ty := .int) (C := RX8) (T := TX8) (N := 48) hx hb hts layX8 tyX8 tyX8_ok nmX8 hown hK hP hD hS 0 rfl rfl 13 (by decide) (hts _ (inA q991)) (fun _ h9 => h9) rfl (by decide +kernel) rfl rfl (Nat.le_of_ble_eq_true rfl) dX8_read_12 (fun H locs hP hD hS => ?_)
  have hP : va_P D vwCl (wM_CXLNTUOEQ cI ad o_X (o_L.1, o_L.2.1, o_L.2.2.1, o_L.2.2.2.1, o_L.2.2.2.2.1, 0, (-1)) (0, o_N.2) o_T o_U o_O o_E o_Q o_V o_I o_C) H := hP
  have hD : va_D A (wM_CXLNTUOEQ cI ad o_X (o_L.1, o_L.2.1, o_L.2.2.1, o_L.2.2.2.1, o_L.2.2.2.2.1, 0, (-1)) (0, o_N.2) o_T o_U o_O o_E o_Q o_V o_I o_C) := hD
  refine lv_aload_n hx hb dX8_read_15 rfl (lv_at hl 0 rfl) ?_
  refine va_get (D := D) (ci := 8) (v := .ref (ad 106)) (C := RX8) (T := TX8) (N := 48) hx hb hts layX8 hown hK hP 0 rfl rfl 14 (by decide) (hts _ (inA q992)) (fun _ h9 => h9) rfl dX8_read_16 ?_
  refine lv_iconst (v := 0) hx hb dX8_read_19 (by decide) ?_
  refine lv_iconst (v := 0) hx hb dX8_read_20 (by decide) ?_
  obtain ⟨b1, hM⟩ := gd_use hM
  refine va_iast hx hb hK hP hD hS 6 0 rfl rfl b1 dX8_read_21 (fun H locs hP hD hS => ?_)
  have hP : va_P D vwCl (wM_CXLNTUOEQ cI ad o_X (o_L.1, o_L.2.1, o_L.2.2.1, o_L.2.2.2.1, o_L.2.2.2.2.1, 0, (-1)) (0, upd o_N.2.1 (0 : Int32).toNatClampNeg 0, o_N.2.2) o_T o_U o_O o_E o_Q o_V o_I o_C) H := hP
  have hD : va_D A (wM_CXLNTUOEQ cI ad o_X (o_L.1, o_L.2.1, o_L.2.2.1, o_L.2.2.2.1, o_L.2.2.2.2.1, 0, (-1)) (0, upd o_N.2.1 (0 : Int32).toNatClampNeg 0, o_N.2.2) o_T o_U o_O o_E o_Q o_V o_I o_C) := hD
  refine lv_aload_n hx hb dX8_read_22 rfl (lv_at hl 0 rfl) ?_
  refine lv_iconst (v := 0) hx hb dX8_read_23 (by decide) ?_
  refine va_put (D := D) (ci := 8) (v := .int 0) (ty := .int) (C := RX8) (T := TX8) (N := 48) hx hb hts layX8 tyX8 tyX8_ok nmX8 hown hK hP hD hS 0 rfl rfl 16 (by decide) (hts _ (inA q994)) (fun _ h9 => h9) rfl (by decide +kernel) rfl rfl (Nat.le_of_ble_eq_true rfl) dX8_read_24 (fun H locs hP hD hS => ?_)
  have hP : va_P D vwCl (wM_CXLNTUOEQ cI ad o_X (o_L.1, o_L.2.1, o_L.2.2.1, o_L.2.2.2.1, o_L.2.2.2.2.1, 0, (-1)) (0, upd o_N.2.1 (0 : Int32).toNatClampNeg 0, o_N.2.2) (0, o_T.2) o_U o_O o_E o_Q o_V o_I o_C) H := hP
  have hD : va_D A (wM_CXLNTUOEQ cI ad o_X (o_L.1, o_L.2.1, o_L.2.2.1, o_L.2.2.2.1, o_L.2.2.2.2.1, 0, (-1)) (0, upd o_N.2.1 (0 : Int32).toNatClampNeg 0, o_N.2.2) (0, o_T.2) o_U o_O o_E o_Q o_V o_I o_C) := hD
  refine lv_aload_n hx hb dX8_read_27 rfl (lv_at hl 0 rfl) ?_
  refine lv_iconst (v := 0) hx hb dX8_read_28 (by decide) ?_
  refine va_put (D := D) (ci := 8) (v := .int 0) (ty := .int) (C := RX8) (T := TX8) (N := 48) hx hb hts layX8 tyX8 tyX8_ok nmX8 hown hK hP hD hS 0 rfl rfl 40 (by decide) (hts _ (inA q1018)) (fun _ h9 => h9) rfl (by decide +kernel) rfl rfl (Nat.le_of_ble_eq_true rfl) dX8_read_29 (fun H locs hP hD hS => ?_)
  have hP : va_P D vwCl (wM_CXLNTUOEQ cI ad o_X (o_L.1, o_L.2.1, o_L.2.2.1, o_L.2.2.2.1, o_L.2.2.2.2.1, 0, (-1)) (0, upd o_N.2.1 (0 : Int32).toNatClampNeg 0, o_N.2.2) (0, o_T.2) o_U o_O o_E (0, o_Q.2) o_V o_I o_C) H := hP
  have hD : va_D A (wM_CXLNTUOEQ cI ad o_X (o_L.1, o_L.2.1, o_L.2.2.1, o_L.2.2.2.1, o_L.2.2.2.2.1, 0, (-1)) (0, upd o_N.2.1 (0 : Int32).toNatClampNeg 0, o_N.2.2) (0, o_T.2) o_U o_O o_E (0, o_Q.2) o_V o_I o_C) := hD
  refine lv_aload_n hx hb dX8_read_32 rfl (lv_at hl 0 rfl) ?_
  refine lv_iconst (v := 0) hx hb dX8_read_33 (by decide) ?_
  refine va_put (D := D) (ci := 8) (v := .int 0) (ty := .int) (C := RX8) (T := TX8) (N := 48) hx hb hts layX8 tyX8 tyX8_ok nmX8 hown hK hP hD hS 0 rfl rfl 25 (by decide) (hts _ (inA q1003)) (fun _ h9 => h9) rfl (by decide +kernel) rfl rfl (Nat.le_of_ble_eq_true rfl) dX8_read_34 (fun H locs hP hD hS => ?_)
  have hP : va_P D vwCl (wM_CXLNTUOEQ cI ad o_X (o_L.1, o_L.2.1, o_L.2.2.1, o_L.2.2.2.1, o_L.2.2.2.2.1, 0, (-1)) (0, upd o_N.2.1 (0 : Int32).toNatClampNeg 0, o_N.2.2) (0, o_T.2) (0, o_U.2) o_O o_E (0, o_Q.2) o_V o_I o_C) H := hP
  have hD : va_D A (wM_CXLNTUOEQ cI ad o_X (o_L.1, o_L.2.1, o_L.2.2.1, o_L.2.2.2.1, o_L.2.2.2.2.1, 0, (-1)) (0, upd o_N.2.1 (0 : Int32).toNatClampNeg 0, o_N.2.2) (0, o_T.2) (0, o_U.2) o_O o_E (0, o_Q.2) o_V o_I o_C) := hD
  refine lv_aload_n hx hb dX8_read_37 rfl (lv_at hl 0 rfl) ?_
  refine lv_iconst (v := 0) hx hb dX8_read_38 (by decide) ?_
  refine va_put (D := D) (ci := 8) (v := .int 0) (ty := .int) (C := RX8) (T := TX8) (N := 48) hx hb hts layX8 tyX8 tyX8_ok nmX8 hown hK hP hD hS 0 rfl rfl 27 (by decide) (hts _ (inA q1005)) (fun _ h9 => h9) rfl (by decide +kernel) rfl rfl (Nat.le_of_ble_eq_true rfl) dX8_read_39 (fun H locs hP hD hS => ?_)
  have hP : va_P D vwCl (wM_CXLNTUOEQ cI ad o_X (o_L.1, o_L.2.1, o_L.2.2.1, o_L.2.2.2.1, o_L.2.2.2.2.1, 0, (-1)) (0, upd o_N.2.1 (0 : Int32).toNatClampNeg 0, o_N.2.2) (0, o_T.2) (0, o_U.2) (0, o_O.2) o_E (0, o_Q.2) o_V o_I o_C) H := hP
  have hD : va_D A (wM_CXLNTUOEQ cI ad o_X (o_L.1, o_L.2.1, o_L.2.2.1, o_L.2.2.2.1, o_L.2.2.2.2.1, 0, (-1)) (0, upd o_N.2.1 (0 : Int32).toNatClampNeg 0, o_N.2.2) (0, o_T.2) (0, o_U.2) (0, o_O.2) o_E (0, o_Q.2) o_V o_I o_C) := hD
  refine lv_aload_n hx hb dX8_read_42 rfl (lv_at hl 0 rfl) ?_
  refine lv_iconst (v := 0) hx hb dX8_read_43 (by decide) ?_
  refine va_put (D := D) (ci := 8) (v := .int 0) (ty := .int) (C := RX8) (T := TX8) (N := 48) hx hb hts layX8 tyX8 tyX8_ok nmX8 hown hK hP hD hS 0 rfl rfl 28 (by decide) (hts _ (inA q1006)) (fun _ h9 => h9) rfl (by decide +kernel) rfl rfl (Nat.le_of_ble_eq_true rfl) dX8_read_44 (fun H locs hP hD hS => ?_)
  have hP : va_P D vwCl (wM_CXLNTUOEQ cI ad o_X (o_L.1, o_L.2.1, o_L.2.2.1, o_L.2.2.2.1, o_L.2.2.2.2.1, 0, (-1)) (0, upd o_N.2.1 (0 : Int32).toNatClampNeg 0, o_N.2.2) (0, o_T.2) (0, o_U.2) (0, 0, o_O.2.2) o_E (0, o_Q.2) o_V o_I o_C) H := hP
  have hD : va_D A (wM_CXLNTUOEQ cI ad o_X (o_L.1, o_L.2.1, o_L.2.2.1, o_L.2.2.2.1, o_L.2.2.2.2.1, 0, (-1)) (0, upd o_N.2.1 (0 : Int32).toNatClampNeg 0, o_N.2.2) (0, o_T.2) (0, o_U.2) (0, 0, o_O.2.2) o_E (0, o_Q.2) o_V o_I o_C) := hD
  refine lv_aload_n hx hb dX8_read_47 rfl (lv_at hl 0 rfl) ?_
  refine lv_iconst (v := 0) hx hb dX8_read_48 (by decide) ?_
  refine va_put (D := D) (ci := 8) (v := .int 0) (ty := .int) (C := RX8) (T := TX8) (N := 48) hx hb hts layX8 tyX8 tyX8_ok nmX8 hown hK hP hD hS 0 rfl rfl 29 (by decide) (hts _ (inA q1007)) (fun _ h9 => h9) rfl (by decide +kernel) rfl rfl (Nat.le_of_ble_eq_true rfl) dX8_read_49 (fun H locs hP hD hS => ?_)
  have hP : va_P D vwCl (wM_CXLNTUOEQ cI ad o_X (o_L.1, o_L.2.1, o_L.2.2.1, o_L.2.2.2.1, o_L.2.2.2.2.1, 0, (-1)) (0, upd o_N.2.1 (0 : Int32).toNatClampNeg 0, o_N.2.2) (0, o_T.2) (0, o_U.2) (0, 0, 0, o_O.2.2.2) o_E (0, o_Q.2) o_V o_I o_C) H := hP
  have hD : va_D A (wM_CXLNTUOEQ cI ad o_X (o_L.1, o_L.2.1, o_L.2.2.1, o_L.2.2.2.1, o_L.2.2.2.2.1, 0, (-1)) (0, upd o_N.2.1 (0 : Int32).toNatClampNeg 0, o_N.2.2) (0, o_T.2) (0, o_U.2) (0, 0, 0, o_O.2.2.2) o_E (0, o_Q.2) o_V o_I o_C) := hD
  refine lv_aload_n hx hb dX8_read_52 rfl (lv_at hl 0 rfl) ?_
  refine lv_iconst (v := 0) hx hb dX8_read_53 (by decide) ?_
  refine va_put (D := D) (ci := 8) (v := .int 0) (ty := .int) (C := RX8) (T := TX8) (N := 48) hx hb hts layX8 tyX8 tyX8_ok nmX8 hown hK hP hD hS 0 rfl rfl 33 (by decide) (hts _ (inA q1011)) (fun _ h9 => h9) rfl (by decide +kernel) rfl rfl (Nat.le_of_ble_eq_true rfl) dX8_read_54 (fun H locs hP hD hS => ?_)
  have hP : va_P D vwCl (wM_CXLNTUOEQ cI ad o_X (o_L.1, o_L.2.1, o_L.2.2.1, o_L.2.2.2.1, o_L.2.2.2.2.1, 0, (-1)) (0, upd o_N.2.1 (0 : Int32).toNatClampNeg 0, o_N.2.2) (0, o_T.2) (0, o_U.2) (0, 0, 0, o_O.2.2.2) (0, o_E.2) (0, o_Q.2) o_V o_I o_C) H := hP
  have hD : va_D A (wM_CXLNTUOEQ cI ad o_X (o_L.1, o_L.2.1, o_L.2.2.1, o_L.2.2.2.1, o_L.2.2.2.2.1, 0, (-1)) (0, upd o_N.2.1 (0 : Int32).toNatClampNeg 0, o_N.2.2) (0, o_T.2) (0, o_U.2) (0, 0, 0, o_O.2.2.2) (0, o_E.2) (0, o_Q.2) o_V o_I o_C) := hD
  refine lv_aload_n hx hb dX8_read_57 rfl (lv_at hl 0 rfl) ?_
  refine lv_iconst (v := 0) hx hb dX8_read_58 (by decide) ?_
  refine va_put (D := D) (ci := 8) (v := .int 0) (ty := .int) (C := RX8) (T := TX8) (N := 48) hx hb hts layX8 tyX8 tyX8_ok nmX8 hown hK hP hD hS 0 rfl rfl 35 (by decide) (hts _ (inA q1013)) (fun _ h9 => h9) rfl (by decide +kernel) rfl rfl (Nat.le_of_ble_eq_true rfl) dX8_read_59 (fun H locs hP hD hS => ?_)
  have hP : va_P D vwCl (wM_CXLNTUOEQ cI ad o_X (o_L.1, o_L.2.1, o_L.2.2.1, o_L.2.2.2.1, o_L.2.2.2.2.1, 0, (-1)) (0, upd o_N.2.1 (0 : Int32).toNatClampNeg 0, o_N.2.2) (0, o_T.2) (0, o_U.2) (0, 0, 0, o_O.2.2.2) (0, 0, o_E.2.2) (0, o_Q.2) o_V o_I o_C) H := hP
  have hD : va_D A (wM_CXLNTUOEQ cI ad o_X (o_L.1, o_L.2.1, o_L.2.2.1, o_L.2.2.2.1, o_L.2.2.2.2.1, 0, (-1)) (0, upd o_N.2.1 (0 : Int32).toNatClampNeg 0, o_N.2.2) (0, o_T.2) (0, o_U.2) (0, 0, 0, o_O.2.2.2) (0, 0, o_E.2.2) (0, o_Q.2) o_V o_I o_C) := hD
  refine lv_aload_n hx hb dX8_read_62 rfl (lv_at hl 0 rfl) ?_
  refine lv_iconst (v := 0) hx hb dX8_read_63 (by decide) ?_
  refine va_put (D := D) (ci := 8) (v := .int 0) (ty := .int) (C := RX8) (T := TX8) (N := 48) hx hb hts layX8 tyX8 tyX8_ok nmX8 hown hK hP hD hS 0 rfl rfl 38 (by decide) (hts _ (inA q1016)) (fun _ h9 => h9) rfl (by decide +kernel) rfl rfl (Nat.le_of_ble_eq_true rfl) dX8_read_64 (fun H locs hP hD hS => ?_)
  have hP : va_P D vwCl (wM_CXLNTUOEQ cI ad o_X (o_L.1, o_L.2.1, o_L.2.2.1, o_L.2.2.2.1, o_L.2.2.2.2.1, 0, (-1)) (0, upd o_N.2.1 (0 : Int32).toNatClampNeg 0, o_N.2.2) (0, o_T.2) (0, o_U.2) (0, 0, 0, o_O.2.2.2) (0, 0, 0, o_E.2.2.2) (0, o_Q.2) o_V o_I o_C) H := hP
  have hD : va_D A (wM_CXLNTUOEQ cI ad o_X (o_L.1, o_L.2.1, o_L.2.2.1, o_L.2.2.2.1, o_L.2.2.2.2.1, 0, (-1)) (0, upd o_N.2.1 (0 : Int32).toNatClampNeg 0, o_N.2.2) (0, o_T.2) (0, o_U.2) (0, 0, 0, o_O.2.2.2) (0, 0, 0, o_E.2.2.2) (0, o_Q.2) o_V o_I o_C) := hD
  refine lv_aload_n hx hb dX8_read_67 rfl (lv_at hl 0 rfl) ?_
  refine lv_iconst (v := 0) hx hb dX8_read_68 (by decide) ?_
  refine va_put (D := D) (ci := 8) (v := .int 0) (ty := .int) (C := RX8) (T := TX8) (N := 48) hx hb hts layX8 tyX8 tyX8_ok nmX8 hown hK hP hD hS 0 rfl rfl 6 (by decide) (hts _ (inA q984)) (fun _ h9 => h9) rfl (by decide +kernel) rfl rfl (Nat.le_of_ble_eq_true rfl) dX8_read_69 (fun H locs hP hD hS => ?_)
  have hP : va_P D vwCl (wM_CXLNTUOEQ cI ad o_X (0, o_L.2.1, o_L.2.2.1, o_L.2.2.2.1, o_L.2.2.2.2.1, 0, (-1)) (0, upd o_N.2.1 (0 : Int32).toNatClampNeg 0, o_N.2.2) (0, o_T.2) (0, o_U.2) (0, 0, 0, o_O.2.2.2) (0, 0, 0, o_E.2.2.2) (0, o_Q.2) o_V o_I o_C) H := hP
  have hD : va_D A (wM_CXLNTUOEQ cI ad o_X (0, o_L.2.1, o_L.2.2.1, o_L.2.2.2.1, o_L.2.2.2.2.1, 0, (-1)) (0, upd o_N.2.1 (0 : Int32).toNatClampNeg 0, o_N.2.2) (0, o_T.2) (0, o_U.2) (0, 0, 0, o_O.2.2.2) (0, 0, 0, o_E.2.2.2) (0, o_Q.2) o_V o_I o_C) := hD
  refine lv_aload_n hx hb dX8_read_72 rfl (lv_at hl 0 rfl) ?_
  refine lv_iconst (v := 0) hx hb dX8_read_73 (by decide) ?_
  refine va_put (D := D) (ci := 8) (v := .int 0) (ty := .int) (C := RX8) (T := TX8) (N := 48) hx hb hts layX8 tyX8 tyX8_ok nmX8 hown hK hP hD hS 0 rfl rfl 9 (by decide) (hts _ (inA q987)) (fun _ h9 => h9) rfl (by decide +kernel) rfl rfl (Nat.le_of_ble_eq_true rfl) dX8_read_74 (fun H locs hP hD hS => ?_)
  have hP : va_P D vwCl (wM_CXLNTUOEQ cI ad o_X (0, o_L.2.1, o_L.2.2.1, 0, o_L.2.2.2.2.1, 0, (-1)) (0, upd o_N.2.1 (0 : Int32).toNatClampNeg 0, o_N.2.2) (0, o_T.2) (0, o_U.2) (0, 0, 0, o_O.2.2.2) (0, 0, 0, o_E.2.2.2) (0, o_Q.2) o_V o_I o_C) H := hP
  have hD : va_D A (wM_CXLNTUOEQ cI ad o_X (0, o_L.2.1, o_L.2.2.1, 0, o_L.2.2.2.2.1, 0, (-1)) (0, upd o_N.2.1 (0 : Int32).toNatClampNeg 0, o_N.2.2) (0, o_T.2) (0, o_U.2) (0, 0, 0, o_O.2.2.2) (0, 0, 0, o_E.2.2.2) (0, o_Q.2) o_V o_I o_C) := hD
  refine lv_aload_n hx hb dX8_read_77 rfl (lv_at hl 0 rfl) ?_
  refine lv_aload_n hx hb dX8_read_78 rfl (lv_at hl 0 rfl) ?_
  refine lv_iconst (v := 0) hx hb dX8_read_79 (by decide) ?_
  refine lv_iconst (v := 0) hx hb dX8_read_80 (by decide) ?_
  refine lv_iconst (v := 0) hx hb dX8_read_81 (by decide) ?_
  obtain ⟨r2, hcr2, hM⟩ := ob_use hM
  refine cl_V (As := [.int 0, .int 0, .int 0]) (rest := [.ref (ad 100)]) (wM_CXLNTUOEQ cI ad o_X (0, o_L.2.1, o_L.2.2.1, 0, o_L.2.2.2.2.1, 0, (-1)) (0, upd o_N.2.1 (0 : Int32).toNatClampNeg 0, o_N.2.2) r2.2 (0, o_U.2) (0, 0, 0, o_O.2.2.2) (0, 0, 0, o_E.2.2.2) (0, o_Q.2) o_V o_I o_C) (.int r2.1 :: [.ref (ad 100)]) ⟨hx, hb, hml, hown, hts⟩ (c_Model_make l D cI sd ad o_C o_X (0, o_L.2.1, o_L.2.2.1, 0, o_L.2.2.2.2.1, 0, (-1)) (0, upd o_N.2.1 (0 : Int32).toNatClampNeg 0, o_N.2.2) (0, o_U.2) (0, 0, 0, o_O.2.2.2) (0, 0, 0, o_E.2.2.2) (0, o_Q.2) o_V o_I (0, o_T.2) 0 0 0 r2 hcr2) (cwV2 hts q1143 mvX8_make rfl rfl ⟨(Nat.le_of_ble_eq_true rfl), (Nat.le_of_ble_eq_true rfl)⟩) hK hE hA hP hD hS 0 (T := TX8) (N := 48) (ci := 8) rfl rfl [0, 8, 9, 10, 11, 12, 13, 14] rfl (by decide) (mrgE rfl rfl) rfl rfl rfl rfl rfl hl.1 (Nat.le_of_ble_eq_true rfl) dX8_read_82 ⟨Nat.zero_le _, Nat.zero_le _⟩ (fun H locs hP hD hS => ?_)
  refine va_put (D := D) (ci := 8) (v := .int r2.1) (ty := .int) (C := RX8) (T := TX8) (N := 48) hx hb hts layX8 tyX8 tyX8_ok nmX8 hown hK hP hD hS 0 rfl rfl 24 (by decide) (hts _ (inA q1002)) (fun _ h9 => h9) rfl (by decide +kernel) rfl rfl (Nat.le_of_ble_eq_true rfl) dX8_read_85 (fun H locs hP hD hS => ?_)
  have hP : va_P D vwCl (wM_CXLNTUOEQ cI ad o_X (0, o_L.2.1, o_L.2.2.1, 0, o_L.2.2.2.2.1, 0, (-1)) (0, upd o_N.2.1 (0 : Int32).toNatClampNeg 0, o_N.2.2) (r2.2.1, r2.1, r2.2.2.2) (0, o_U.2) (0, 0, 0, o_O.2.2.2) (0, 0, 0, o_E.2.2.2) (0, o_Q.2) o_V o_I o_C) H := hP
  have hD : va_D A (wM_CXLNTUOEQ cI ad o_X (0, o_L.2.1, o_L.2.2.1, 0, o_L.2.2.2.2.1, 0, (-1)) (0, upd o_N.2.1 (0 : Int32).toNatClampNeg 0, o_N.2.2) (r2.2.1, r2.1, r2.2.2.2) (0, o_U.2) (0, 0, 0, o_O.2.2.2) (0, 0, 0, o_E.2.2.2) (0, o_Q.2) o_V o_I o_C) := hD
  refine lv_aload_n hx hb dX8_read_88 rfl (lv_at hl 0 rfl) ?_
  refine lv_bipush (v := 100) hx hb dX8_read_89 (by decide) ?_
  obtain ⟨r3, hcr3, hM⟩ := ob_use hM
  refine cl_V (As := [.int 100]) (rest := []) (wM_CXLNTUOEQ cI ad o_X (0, o_L.2.1, o_L.2.2.1, 0, o_L.2.2.2.2.1, 0, (-1)) (0, upd o_N.2.1 (0 : Int32).toNatClampNeg 0, o_N.2.2) (r2.2.1, r2.1, r2.2.2.2) r3 (0, 0, 0, o_O.2.2.2) (0, 0, 0, o_E.2.2.2) (0, o_Q.2) o_V o_I o_C) [] ⟨hx, hb, hml, hown, hts⟩ (c_Model_push l D cI sd ad o_C o_X (0, o_L.2.1, o_L.2.2.1, 0, o_L.2.2.2.2.1, 0, (-1)) (0, upd o_N.2.1 (0 : Int32).toNatClampNeg 0, o_N.2.2) (r2.2.1, r2.1, r2.2.2.2) (0, 0, 0, o_O.2.2.2) (0, 0, 0, o_E.2.2.2) (0, o_Q.2) o_V o_I (0, o_U.2) 100 r3 hcr3) (cwV2 hts q1147 mvX8_push rfl rfl ⟨(Nat.le_of_ble_eq_true rfl), (Nat.le_of_ble_eq_true rfl)⟩) hK hE hA hP hD hS 0 (T := TX8) (N := 48) (ci := 8) rfl rfl [0, 15] rfl (by decide) rfl rfl rfl rfl rfl rfl hl.1 (Nat.le_of_ble_eq_true rfl) dX8_read_91 ⟨Nat.zero_le _, Nat.zero_le _⟩ (fun H locs hP hD hS => ?_)
  refine lv_aload_n hx hb dX8_read_94 rfl (lv_at hl 0 rfl) ?_
  obtain ⟨r4, hcr4, hM⟩ := ob_use hM
  refine cl_V (As := []) (rest := []) (wM_CXLNTUOEQ cI ad o_X r4.1 r4.2 (r2.2.1, r2.1, r2.2.2.2) r3 (0, 0, 0, o_O.2.2.2) (0, 0, 0, o_E.2.2.2) (0, o_Q.2) o_V o_I o_C) [] ⟨hx, hb, hml, hown, hts⟩ (c_Model_step l D cI sd ad (r2.2.1, r2.1, r2.2.2.2) r3 (0, 0, 0, o_O.2.2.2) (0, 0, 0, o_E.2.2.2) (0, o_Q.2) o_V o_I o_C o_X (0, o_L.2.1, o_L.2.2.1, 0, o_L.2.2.2.2.1, 0, (-1)) (0, upd o_N.2.1 (0 : Int32).toNatClampNeg 0, o_N.2.2) r4 hcr4) (cwV2 hts q1151 mvX8_step rfl rfl ⟨(Nat.le_of_ble_eq_true rfl), (Nat.le_of_ble_eq_true rfl)⟩) hK hE hA hP hD hS 0 (T := TX8) (N := 48) (ci := 8) rfl rfl [0, 1, 2, 3, 4, 5, 6, 7] rfl (by decide) (mrgE rfl rfl) rfl rfl rfl rfl rfl hl.1 (Nat.le_of_ble_eq_true rfl) dX8_read_95 ⟨Nat.zero_le _, Nat.zero_le _⟩ (fun H locs hP hD hS => ?_)
  have lp_L98 : ∀ (o_C_L98 : S_MC) (o_X_L98 : S_MX) (o_Q_L98 : S_MQ) (n : Nat) (o_L_L98 : S_ML) (o_N_L98 : S_MN) (o_T_L98 : S_MT) (o_U_L98 : S_MU) (o_O_L98 : S_MO) (o_E_L98 : S_ME) (out_L98 : S_ML × S_MN × S_MT × S_MU × S_MO × S_ME) (H : Heap) (locs : List Loc) (ls : Array Slot), f_Model_read_L98 o_C_L98 o_X_L98 n o_L_L98 o_N_L98 o_T_L98 o_U_L98 o_O_L98 o_E_L98 = some out_L98 → va_P D vwCl (wM_CXLNTUOEQ cI ad o_X_L98 o_L_L98 o_N_L98 o_T_L98 o_U_L98 o_O_L98 o_E_L98 o_Q_L98 o_V o_I o_C_L98) H → va_D A (wM_CXLNTUOEQ cI ad o_X_L98 o_L_L98 o_N_L98 o_T_L98 o_U_L98 o_O_L98 o_E_L98 o_Q_L98 o_V o_I o_C_L98) → va_S A s.heap H locs → lv_has ls 1 [(0, .ref (ad 100))] → (∀ (H : Heap) (locs : List Loc) (ls : Array Slot), va_P D vwCl (wM_CXLNTUOEQ cI ad o_X_L98 out_L98.1 out_L98.2.1 out_L98.2.2.1 out_L98.2.2.2.1 out_L98.2.2.2.2.1 out_L98.2.2.2.2.2 o_Q_L98 o_V o_I o_C_L98) H → va_D A (wM_CXLNTUOEQ cI ad o_X_L98 out_L98.1 out_L98.2.1 out_L98.2.2.1 out_L98.2.2.2.1 out_L98.2.2.2.2.1 out_L98.2.2.2.2.2 o_Q_L98 o_V o_I o_C_L98) → va_S A s.heap H locs → lv_has ls 1 [(0, .ref (ad 100))] → W p l e { frames := 11, cells := 0, slots := 0, locals := 237 } s m [.ref (ad 100)].toArray below meth c H locs 0 0 (MQ below (CQ D A (wM_CXLNTUOEQ cI ad o_X res.2.1 res.2.2.1 res.2.2.2.1 res.2.2.2.2.1 res.2.2.2.2.2.1 res.2.2.2.2.2.2.1 res.2.2.2.2.2.2.2 o_V o_I o_C) (some (.int res.1))) [.ref (ad 100)].toArray s 0 0 A) (F0 m 138 ls [])) → W p l e { frames := 11, cells := 0, slots := 0, locals := 237 } s m [.ref (ad 100)].toArray below meth c H locs 0 0 (MQ below (CQ D A (wM_CXLNTUOEQ cI ad o_X res.2.1 res.2.2.1 res.2.2.2.1 res.2.2.2.2.1 res.2.2.2.2.2.1 res.2.2.2.2.2.2.1 res.2.2.2.2.2.2.2 o_V o_I o_C) (some (.int res.1))) [.ref (ad 100)].toArray s 0 0 A) (F0 m 98 ls []) := by
    intro o_C_L98 o_X_L98 o_Q_L98 n
    induction n with
    | zero => intro o_L_L98 o_N_L98 o_T_L98 o_U_L98 o_O_L98 o_E_L98 out_L98 H locs ls hM; exact absurd (show none = some _ from hM) (by simp)
    | succ n ih_L98 =>
      intro o_L_L98 o_N_L98 o_T_L98 o_U_L98 o_O_L98 o_E_L98 out_L98 H locs ls hM hP hD hS hl kx_L98
      rw [f_Model_read_L98] at hM
      refine lv_aload_n hx hb dX8_read_98 rfl (lv_at hl 0 rfl) ?_
      refine va_get (D := D) (ci := 8) (v := .int o_L_L98.2.2.2.2.2.1) (C := RX8) (T := TX8) (N := 48) hx hb hts layX8 hown hK hP 0 rfl rfl 11 (by decide) (hts _ (inA q989)) (fun _ h9 => h9) rfl dX8_read_99 ?_
      refine lv_if_ne (tgt := 138) hx hb dX8_read_102 (by decide) (fun c2081 => ?_) (fun c2081 => ?_)
      · replace hM := if_f c2081 hM
        cases hM
        exact kx_L98 _ _ _ hP hD hS (lv_sub hl [0] rfl)
      · replace hM := if_t c2081 hM
        refine lv_aload_n hx hb dX8_read_105 rfl (lv_at hl 0 rfl) ?_
        refine va_get (D := D) (ci := 8) (v := .int o_U_L98.1) (C := RX8) (T := TX8) (N := 48) hx hb hts layX8 hown hK hP 0 rfl rfl 25 (by decide) (hts _ (inA q1003)) (fun _ h9 => h9) rfl dX8_read_106 ?_
        refine lv_if_le (tgt := 138) hx hb dX8_read_109 (by decide) (fun c2082 => ?_) (fun c2082 => ?_)
        · replace hM := if_t c2082 hM
          cases hM
          exact kx_L98 _ _ _ hP hD hS (lv_sub hl [0] rfl)
        · replace hM := if_f c2082 hM
          refine lv_aload_n hx hb dX8_read_112 rfl (lv_at hl 0 rfl) ?_
          refine lv_dup hx hb dX8_read_113 rfl ?_
          refine va_get (D := D) (ci := 8) (v := .int o_U_L98.1) (C := RX8) (T := TX8) (N := 48) hx hb hts layX8 hown hK hP 0 rfl rfl 25 (by decide) (hts _ (inA q1003)) (fun _ h9 => h9) rfl dX8_read_114 ?_
          refine lv_iconst (v := 1) hx hb dX8_read_117 (by decide) ?_
          refine lv_isub hx hb dX8_read_118 ?_
          refine va_put (D := D) (ci := 8) (v := .int (o_U_L98.1 - 1)) (ty := .int) (C := RX8) (T := TX8) (N := 48) hx hb hts layX8 tyX8 tyX8_ok nmX8 hown hK hP hD hS 0 rfl rfl 25 (by decide) (hts _ (inA q1003)) (fun _ h9 => h9) rfl (by decide +kernel) rfl rfl (Nat.le_of_ble_eq_true rfl) dX8_read_119 (fun H locs hP hD hS => ?_)
          have hP : va_P D vwCl (wM_CXLNTUOEQ cI ad o_X_L98 o_L_L98 o_N_L98 o_T_L98 (o_U_L98.1 - 1, o_U_L98.2) o_O_L98 o_E_L98 o_Q_L98 o_V o_I o_C_L98) H := hP
          have hD : va_D A (wM_CXLNTUOEQ cI ad o_X_L98 o_L_L98 o_N_L98 o_T_L98 (o_U_L98.1 - 1, o_U_L98.2) o_O_L98 o_E_L98 o_Q_L98 o_V o_I o_C_L98) := hD
          refine lv_aload_n hx hb dX8_read_122 rfl (lv_at hl 0 rfl) ?_
          refine lv_aload_n hx hb dX8_read_123 rfl (lv_at hl 0 rfl) ?_
          refine va_get (D := D) (ci := 8) (v := .ref (ad 115)) (C := RX8) (T := TX8) (N := 48) hx hb hts layX8 hown hK hP 0 rfl rfl 26 (by decide) (hts _ (inA q1004)) (fun _ h9 => h9) rfl dX8_read_124 ?_
          refine lv_aload_n hx hb dX8_read_127 rfl (lv_at hl 0 rfl) ?_
          refine va_get (D := D) (ci := 8) (v := .int (o_U_L98.1 - 1)) (C := RX8) (T := TX8) (N := 48) hx hb hts layX8 hown hK hP 0 rfl rfl 25 (by decide) (hts _ (inA q1003)) (fun _ h9 => h9) rfl dX8_read_128 ?_
          obtain ⟨b2083, hM⟩ := gd_use hM
          refine va_iald hx hb hK hP 15 0 rfl rfl b2083 dX8_read_131 ?_
          obtain ⟨r2084, hcr2084, hM⟩ := ob_use hM
          refine cl_V (As := [.int (o_U_L98.2 (o_U_L98.1 - 1).toNatClampNeg)]) (rest := []) (wM_CXLNTUOEQ cI ad o_X_L98 r2084.1 r2084.2.1 r2084.2.2.1 r2084.2.2.2.1 r2084.2.2.2.2.1 r2084.2.2.2.2.2 o_Q_L98 o_V o_I o_C_L98) [] ⟨hx, hb, hml, hown, hts⟩ (c_Model_act l D cI sd ad o_Q_L98 o_V o_I o_C_L98 o_X_L98 o_L_L98 o_N_L98 o_T_L98 (o_U_L98.1 - 1, o_U_L98.2) o_O_L98 o_E_L98 (o_U_L98.2 (o_U_L98.1 - 1).toNatClampNeg) r2084 hcr2084) (cwV2 hts q1225 mvX8_act rfl rfl ⟨(Nat.le_of_ble_eq_true rfl), (Nat.le_of_ble_eq_true rfl)⟩) hK hE hA hP hD hS 0 (T := TX8) (N := 48) (ci := 8) rfl rfl [0, 1, 2, 3, 4, 5, 6, 7, 8, 9, 10, 11, 12, 13, 14, 15, 16, 17, 18, 19] rfl (by decide) (mrgE rfl rfl) rfl rfl rfl rfl rfl hl.1 (Nat.le_of_ble_eq_true rfl) dX8_read_132 ⟨Nat.zero_le _, Nat.zero_le _⟩ (fun H locs hP hD hS => ?_)
          refine lv_goto (tgt := 98) hx hb dX8_read_135 (by decide) ?_
          exact ih_L98 r2084.1 r2084.2.1 r2084.2.2.1 r2084.2.2.2.1 r2084.2.2.2.2.1 r2084.2.2.2.2.2 out_L98 _ _ _ hM hP hD hS (lv_sub hl [0] rfl) kx_L98
  obtain ⟨r5, hcr5, hM⟩ := ob_use hM
  refine lp_L98 o_C o_X (0, o_Q.2) FU r4.1 r4.2 (r2.2.1, r2.1, r2.2.2.2) r3 (0, 0, 0, o_O.2.2.2) (0, 0, 0, o_E.2.2.2) r5 _ _ _ hcr5 hP hD hS (lv_sub hl [0] rfl) (fun H locs ls hP hD hS hl => ?_)
  refine lv_aload_n hx hb dX8_read_138 rfl (lv_at hl 0 rfl) ?_
  refine va_get (D := D) (ci := 8) (v := .int r5.1.2.2.2.2.2.1) (C := RX8) (T := TX8) (N := 48) hx hb hts layX8 hown hK hP 0 rfl rfl 11 (by decide) (hts _ (inA q989)) (fun _ h9 => h9) rfl dX8_read_139 ?_
  refine lv_if_ne (tgt := 152) hx hb dX8_read_142 (by decide) (fun c6 => ?_) (fun c6 => ?_)
  · replace hM := if_f c6 hM
    refine lv_aload_n hx hb dX8_read_152 rfl (lv_at hl 0 rfl) ?_
    refine lv_iconst (v := 0) hx hb dX8_read_153 (by decide) ?_
    refine va_put (D := D) (ci := 8) (v := .int 0) (ty := .int) (C := RX8) (T := TX8) (N := 48) hx hb hts layX8 tyX8 tyX8_ok nmX8 hown hK hP hD hS 0 rfl rfl 13 (by decide) (hts _ (inA q991)) (fun _ h9 => h9) rfl (by decide +kernel) rfl rfl (Nat.le_of_ble_eq_true rfl) dX8_read_154 (fun H locs hP hD hS => ?_)
    have hP : va_P D vwCl (wM_CXLNTUOEQ cI ad o_X r5.1 (0, r5.2.1.2) r5.2.2.1 r5.2.2.2.1 r5.2.2.2.2.1 r5.2.2.2.2.2 (0, o_Q.2) o_V o_I o_C) H := hP
    have hD : va_D A (wM_CXLNTUOEQ cI ad o_X r5.1 (0, r5.2.1.2) r5.2.2.1 r5.2.2.2.1 r5.2.2.2.2.1 r5.2.2.2.2.2 (0, o_Q.2) o_V o_I o_C) := hD
    refine lv_aload_n hx hb dX8_read_157 rfl (lv_at hl 0 rfl) ?_
    refine va_get (D := D) (ci := 8) (v := .int r5.1.2.2.2.2.2.1) (C := RX8) (T := TX8) (N := 48) hx hb hts layX8 hown hK hP 0 rfl rfl 11 (by decide) (hts _ (inA q989)) (fun _ h9 => h9) rfl dX8_read_158 ?_
    cases hM
    exact rt_i hx hb hr hlk hP hD hS rfl dX8_read_161
  · replace hM := if_t c6 hM
    refine lv_aload_n hx hb dX8_read_145 rfl (lv_at hl 0 rfl) ?_
    obtain ⟨r7, hcr7, hM⟩ := ob_use hM
    refine cl_V (As := []) (rest := []) (wM_CXLNTUOEQ cI ad o_X r5.1 r5.2.1 r5.2.2.1 r5.2.2.2.1 r5.2.2.2.2.1 r5.2.2.2.2.2 r7 o_V o_I o_C) [] ⟨hx, hb, hml, hown, hts⟩ (c_Model_number l D cI sd ad o_C o_X r5.1 r5.2.1 r5.2.2.2.1 r5.2.2.2.2.1 r5.2.2.2.2.2 o_V o_I r5.2.2.1 (0, o_Q.2) r7 hcr7) (cwV2 hts q1484 mvX8_number rfl rfl ⟨(Nat.le_of_ble_eq_true rfl), (Nat.le_of_ble_eq_true rfl)⟩) hK hE hA hP hD hS 0 (T := TX8) (N := 48) (ci := 8) rfl rfl [0, 8, 9, 10, 11, 12, 13, 14, 20, 21] rfl (by decide) (mrgE rfl rfl) rfl rfl rfl rfl rfl hl.1 (Nat.le_of_ble_eq_true rfl) dX8_read_146 ⟨Nat.zero_le _, Nat.zero_le _⟩ (fun H locs hP hD hS => ?_)
    refine lv_goto (tgt := 157) hx hb dX8_read_149 (by decide) ?_
    refine lv_aload_n hx hb dX8_read_157 rfl (lv_at hl 0 rfl) ?_
    refine va_get (D := D) (ci := 8) (v := .int r5.1.2.2.2.2.2.1) (C := RX8) (T := TX8) (N := 48) hx hb hts layX8 hown hK hP 0 rfl rfl 11 (by decide) (hts _ (inA q989)) (fun _ h9 => h9) rfl dX8_read_158 ?_
    cases hM
    exact rt_i hx hb hr hlk hP hD hS rfl dX8_read_161

set_option maxHeartbeats 4000000 in
set_option maxRecDepth 100000 in
theorem c_Model_make (l : Launch) (D : va_G) (cI : ClassId) (sd : Nat → Nat) (ad : Nat → Nat) (o_C : S_MC) (o_X : S_MX) (o_L : S_ML) (o_N : S_MN) (o_U : S_MU) (o_O : S_MO) (o_E : S_ME) (o_Q : S_MQ) (o_V : S_MV) (o_I : S_MI) (o_T : S_MT) (a1 : Int32) (a2 : Int32) (a3 : Int32) (res : Int32 × S_MT) (hM : f_Model_make o_T a1 a2 a3 = some res) : Ctr l D cI sd yX8_make (wsM yX8_make cX8_make 4 (Option.some Jvm.ClassFile.FieldType.int)) { frames := 0, cells := 0, slots := 0, locals := 0 } [.ref (ad 100), .int a1, .int a2, .int a3] (wM_T cI ad o_X o_L o_N o_T o_U o_O o_E o_Q o_V o_I) (wM_T cI ad o_X o_L o_N res.2 o_U o_O o_E o_Q o_V o_I) (some (.int res.1)) := by
  refine Ctr.of (cc := cX8_make) (maxL := 4) (own := RX8) (by decide +kernel) rfl rfl (Nat.le_of_ble_eq_true rfl) ?_
  intro p e s m below meth c A ls hx hb hr hml hown hts hlk hK hE hA hP hD hS hl
  have hl : lv_has ls 4 [(0, .ref (ad 100)), (1, .int a1), (2, .int a2), (3, .int a3)] := hl
  unfold f_Model_make at hM
  refine lv_aload_n hx hb dX8_make_0 rfl (lv_at hl 0 rfl) ?_
  refine va_get (D := D) (ci := 8) (v := .ref (ad 108)) (C := RX8) (T := TX8) (N := 48) hx hb hts layX8 hown hK hP 0 rfl rfl 17 (by decide) (hts _ (inA q995)) (fun _ h9 => h9) rfl dX8_make_1 ?_
  refine lv_aload_n hx hb dX8_make_4 rfl (lv_at hl 0 rfl) ?_
  refine va_get (D := D) (ci := 8) (v := .int o_T.1) (C := RX8) (T := TX8) (N := 48) hx hb hts layX8 hown hK hP 0 rfl rfl 16 (by decide) (hts _ (inA q994)) (fun _ h9 => h9) rfl dX8_make_5 ?_
  refine lv_iload_n hx hb dX8_make_8 rfl (lv_at hl 1 rfl) ?_
  obtain ⟨b1, hM⟩ := gd_use hM
  refine va_iast hx hb hK hP hD hS 1 0 rfl rfl b1 dX8_make_9 (fun H locs hP hD hS => ?_)
  have hP : va_P D vwCl (wM_T cI ad o_X o_L o_N (o_T.1, o_T.2.1, upd o_T.2.2.1 o_T.1.toNatClampNeg a1, o_T.2.2.2) o_U o_O o_E o_Q o_V o_I) H := hP
  have hD : va_D A (wM_T cI ad o_X o_L o_N (o_T.1, o_T.2.1, upd o_T.2.2.1 o_T.1.toNatClampNeg a1, o_T.2.2.2) o_U o_O o_E o_Q o_V o_I) := hD
  refine lv_aload_n hx hb dX8_make_10 rfl (lv_at hl 0 rfl) ?_
  refine va_get (D := D) (ci := 8) (v := .ref (ad 109)) (C := RX8) (T := TX8) (N := 48) hx hb hts layX8 hown hK hP 0 rfl rfl 18 (by decide) (hts _ (inA q996)) (fun _ h9 => h9) rfl dX8_make_11 ?_
  refine lv_aload_n hx hb dX8_make_14 rfl (lv_at hl 0 rfl) ?_
  refine va_get (D := D) (ci := 8) (v := .int o_T.1) (C := RX8) (T := TX8) (N := 48) hx hb hts layX8 hown hK hP 0 rfl rfl 16 (by decide) (hts _ (inA q994)) (fun _ h9 => h9) rfl dX8_make_15 ?_
  refine lv_iload_n hx hb dX8_make_18 rfl (lv_at hl 2 rfl) ?_
  obtain ⟨b2, hM⟩ := gd_use hM
  refine va_iast hx hb hK hP hD hS 2 0 rfl rfl b2 dX8_make_19 (fun H locs hP hD hS => ?_)
  have hP : va_P D vwCl (wM_T cI ad o_X o_L o_N (o_T.1, o_T.2.1, upd o_T.2.2.1 o_T.1.toNatClampNeg a1, upd o_T.2.2.2.1 o_T.1.toNatClampNeg a2, o_T.2.2.2.2) o_U o_O o_E o_Q o_V o_I) H := hP
  have hD : va_D A (wM_T cI ad o_X o_L o_N (o_T.1, o_T.2.1, upd o_T.2.2.1 o_T.1.toNatClampNeg a1, upd o_T.2.2.2.1 o_T.1.toNatClampNeg a2, o_T.2.2.2.2) o_U o_O o_E o_Q o_V o_I) := hD
  refine lv_aload_n hx hb dX8_make_20 rfl (lv_at hl 0 rfl) ?_
  refine va_get (D := D) (ci := 8) (v := .ref (ad 110)) (C := RX8) (T := TX8) (N := 48) hx hb hts layX8 hown hK hP 0 rfl rfl 19 (by decide) (hts _ (inA q997)) (fun _ h9 => h9) rfl dX8_make_21 ?_
  refine lv_aload_n hx hb dX8_make_24 rfl (lv_at hl 0 rfl) ?_
  refine va_get (D := D) (ci := 8) (v := .int o_T.1) (C := RX8) (T := TX8) (N := 48) hx hb hts layX8 hown hK hP 0 rfl rfl 16 (by decide) (hts _ (inA q994)) (fun _ h9 => h9) rfl dX8_make_25 ?_
  refine lv_iload_n hx hb dX8_make_28 rfl (lv_at hl 3 rfl) ?_
  obtain ⟨b3, hM⟩ := gd_use hM
  refine va_iast hx hb hK hP hD hS 3 0 rfl rfl b3 dX8_make_29 (fun H locs hP hD hS => ?_)
  have hP : va_P D vwCl (wM_T cI ad o_X o_L o_N (o_T.1, o_T.2.1, upd o_T.2.2.1 o_T.1.toNatClampNeg a1, upd o_T.2.2.2.1 o_T.1.toNatClampNeg a2, upd o_T.2.2.2.2.1 o_T.1.toNatClampNeg a3, o_T.2.2.2.2.2) o_U o_O o_E o_Q o_V o_I) H := hP
  have hD : va_D A (wM_T cI ad o_X o_L o_N (o_T.1, o_T.2.1, upd o_T.2.2.1 o_T.1.toNatClampNeg a1, upd o_T.2.2.2.1 o_T.1.toNatClampNeg a2, upd o_T.2.2.2.2.1 o_T.1.toNatClampNeg a3, o_T.2.2.2.2.2) o_U o_O o_E o_Q o_V o_I) := hD
  refine lv_aload_n hx hb dX8_make_30 rfl (lv_at hl 0 rfl) ?_
  refine va_get (D := D) (ci := 8) (v := .ref (ad 111)) (C := RX8) (T := TX8) (N := 48) hx hb hts layX8 hown hK hP 0 rfl rfl 20 (by decide) (hts _ (inA q998)) (fun _ h9 => h9) rfl dX8_make_31 ?_
  refine lv_aload_n hx hb dX8_make_34 rfl (lv_at hl 0 rfl) ?_
  refine va_get (D := D) (ci := 8) (v := .int o_T.1) (C := RX8) (T := TX8) (N := 48) hx hb hts layX8 hown hK hP 0 rfl rfl 16 (by decide) (hts _ (inA q994)) (fun _ h9 => h9) rfl dX8_make_35 ?_
  refine lv_iconst (v := (-1)) hx hb dX8_make_38 (by decide) ?_
  obtain ⟨b4, hM⟩ := gd_use hM
  refine va_iast hx hb hK hP hD hS 4 0 rfl rfl b4 dX8_make_39 (fun H locs hP hD hS => ?_)
  have hP : va_P D vwCl (wM_T cI ad o_X o_L o_N (o_T.1, o_T.2.1, upd o_T.2.2.1 o_T.1.toNatClampNeg a1, upd o_T.2.2.2.1 o_T.1.toNatClampNeg a2, upd o_T.2.2.2.2.1 o_T.1.toNatClampNeg a3, upd o_T.2.2.2.2.2.1 o_T.1.toNatClampNeg (-1), o_T.2.2.2.2.2.2) o_U o_O o_E o_Q o_V o_I) H := hP
  have hD : va_D A (wM_T cI ad o_X o_L o_N (o_T.1, o_T.2.1, upd o_T.2.2.1 o_T.1.toNatClampNeg a1, upd o_T.2.2.2.1 o_T.1.toNatClampNeg a2, upd o_T.2.2.2.2.1 o_T.1.toNatClampNeg a3, upd o_T.2.2.2.2.2.1 o_T.1.toNatClampNeg (-1), o_T.2.2.2.2.2.2) o_U o_O o_E o_Q o_V o_I) := hD
  refine lv_aload_n hx hb dX8_make_40 rfl (lv_at hl 0 rfl) ?_
  refine va_get (D := D) (ci := 8) (v := .ref (ad 112)) (C := RX8) (T := TX8) (N := 48) hx hb hts layX8 hown hK hP 0 rfl rfl 21 (by decide) (hts _ (inA q999)) (fun _ h9 => h9) rfl dX8_make_41 ?_
  refine lv_aload_n hx hb dX8_make_44 rfl (lv_at hl 0 rfl) ?_
  refine va_get (D := D) (ci := 8) (v := .int o_T.1) (C := RX8) (T := TX8) (N := 48) hx hb hts layX8 hown hK hP 0 rfl rfl 16 (by decide) (hts _ (inA q994)) (fun _ h9 => h9) rfl dX8_make_45 ?_
  refine lv_iconst (v := (-1)) hx hb dX8_make_48 (by decide) ?_
  obtain ⟨b5, hM⟩ := gd_use hM
  refine va_iast hx hb hK hP hD hS 5 0 rfl rfl b5 dX8_make_49 (fun H locs hP hD hS => ?_)
  have hP : va_P D vwCl (wM_T cI ad o_X o_L o_N (o_T.1, o_T.2.1, upd o_T.2.2.1 o_T.1.toNatClampNeg a1, upd o_T.2.2.2.1 o_T.1.toNatClampNeg a2, upd o_T.2.2.2.2.1 o_T.1.toNatClampNeg a3, upd o_T.2.2.2.2.2.1 o_T.1.toNatClampNeg (-1), upd o_T.2.2.2.2.2.2.1 o_T.1.toNatClampNeg (-1), o_T.2.2.2.2.2.2.2) o_U o_O o_E o_Q o_V o_I) H := hP
  have hD : va_D A (wM_T cI ad o_X o_L o_N (o_T.1, o_T.2.1, upd o_T.2.2.1 o_T.1.toNatClampNeg a1, upd o_T.2.2.2.1 o_T.1.toNatClampNeg a2, upd o_T.2.2.2.2.1 o_T.1.toNatClampNeg a3, upd o_T.2.2.2.2.2.1 o_T.1.toNatClampNeg (-1), upd o_T.2.2.2.2.2.2.1 o_T.1.toNatClampNeg (-1), o_T.2.2.2.2.2.2.2) o_U o_O o_E o_Q o_V o_I) := hD
  refine lv_aload_n hx hb dX8_make_50 rfl (lv_at hl 0 rfl) ?_
  refine va_get (D := D) (ci := 8) (v := .ref (ad 113)) (C := RX8) (T := TX8) (N := 48) hx hb hts layX8 hown hK hP 0 rfl rfl 22 (by decide) (hts _ (inA q1000)) (fun _ h9 => h9) rfl dX8_make_51 ?_
  refine lv_aload_n hx hb dX8_make_54 rfl (lv_at hl 0 rfl) ?_
  refine va_get (D := D) (ci := 8) (v := .int o_T.1) (C := RX8) (T := TX8) (N := 48) hx hb hts layX8 hown hK hP 0 rfl rfl 16 (by decide) (hts _ (inA q994)) (fun _ h9 => h9) rfl dX8_make_55 ?_
  refine lv_iconst (v := (-1)) hx hb dX8_make_58 (by decide) ?_
  obtain ⟨b6, hM⟩ := gd_use hM
  refine va_iast hx hb hK hP hD hS 6 0 rfl rfl b6 dX8_make_59 (fun H locs hP hD hS => ?_)
  have hP : va_P D vwCl (wM_T cI ad o_X o_L o_N (o_T.1, o_T.2.1, upd o_T.2.2.1 o_T.1.toNatClampNeg a1, upd o_T.2.2.2.1 o_T.1.toNatClampNeg a2, upd o_T.2.2.2.2.1 o_T.1.toNatClampNeg a3, upd o_T.2.2.2.2.2.1 o_T.1.toNatClampNeg (-1), upd o_T.2.2.2.2.2.2.1 o_T.1.toNatClampNeg (-1), upd o_T.2.2.2.2.2.2.2.1 o_T.1.toNatClampNeg (-1), o_T.2.2.2.2.2.2.2.2) o_U o_O o_E o_Q o_V o_I) H := hP
  have hD : va_D A (wM_T cI ad o_X o_L o_N (o_T.1, o_T.2.1, upd o_T.2.2.1 o_T.1.toNatClampNeg a1, upd o_T.2.2.2.1 o_T.1.toNatClampNeg a2, upd o_T.2.2.2.2.1 o_T.1.toNatClampNeg a3, upd o_T.2.2.2.2.2.1 o_T.1.toNatClampNeg (-1), upd o_T.2.2.2.2.2.2.1 o_T.1.toNatClampNeg (-1), upd o_T.2.2.2.2.2.2.2.1 o_T.1.toNatClampNeg (-1), o_T.2.2.2.2.2.2.2.2) o_U o_O o_E o_Q o_V o_I) := hD
  refine lv_aload_n hx hb dX8_make_60 rfl (lv_at hl 0 rfl) ?_
  refine va_get (D := D) (ci := 8) (v := .ref (ad 114)) (C := RX8) (T := TX8) (N := 48) hx hb hts layX8 hown hK hP 0 rfl rfl 23 (by decide) (hts _ (inA q1001)) (fun _ h9 => h9) rfl dX8_make_61 ?_
  refine lv_aload_n hx hb dX8_make_64 rfl (lv_at hl 0 rfl) ?_
  refine va_get (D := D) (ci := 8) (v := .int o_T.1) (C := RX8) (T := TX8) (N := 48) hx hb hts layX8 hown hK hP 0 rfl rfl 16 (by decide) (hts _ (inA q994)) (fun _ h9 => h9) rfl dX8_make_65 ?_
  refine lv_iconst (v := (-1)) hx hb dX8_make_68 (by decide) ?_
  obtain ⟨b7, hM⟩ := gd_use hM
  refine va_iast hx hb hK hP hD hS 7 0 rfl rfl b7 dX8_make_69 (fun H locs hP hD hS => ?_)
  have hP : va_P D vwCl (wM_T cI ad o_X o_L o_N (o_T.1, o_T.2.1, upd o_T.2.2.1 o_T.1.toNatClampNeg a1, upd o_T.2.2.2.1 o_T.1.toNatClampNeg a2, upd o_T.2.2.2.2.1 o_T.1.toNatClampNeg a3, upd o_T.2.2.2.2.2.1 o_T.1.toNatClampNeg (-1), upd o_T.2.2.2.2.2.2.1 o_T.1.toNatClampNeg (-1), upd o_T.2.2.2.2.2.2.2.1 o_T.1.toNatClampNeg (-1), upd o_T.2.2.2.2.2.2.2.2 o_T.1.toNatClampNeg (-1)) o_U o_O o_E o_Q o_V o_I) H := hP
  have hD : va_D A (wM_T cI ad o_X o_L o_N (o_T.1, o_T.2.1, upd o_T.2.2.1 o_T.1.toNatClampNeg a1, upd o_T.2.2.2.1 o_T.1.toNatClampNeg a2, upd o_T.2.2.2.2.1 o_T.1.toNatClampNeg a3, upd o_T.2.2.2.2.2.1 o_T.1.toNatClampNeg (-1), upd o_T.2.2.2.2.2.2.1 o_T.1.toNatClampNeg (-1), upd o_T.2.2.2.2.2.2.2.1 o_T.1.toNatClampNeg (-1), upd o_T.2.2.2.2.2.2.2.2 o_T.1.toNatClampNeg (-1)) o_U o_O o_E o_Q o_V o_I) := hD
  refine lv_aload_n hx hb dX8_make_70 rfl (lv_at hl 0 rfl) ?_
  refine lv_dup hx hb dX8_make_71 rfl ?_
  refine va_get (D := D) (ci := 8) (v := .int o_T.1) (C := RX8) (T := TX8) (N := 48) hx hb hts layX8 hown hK hP 0 rfl rfl 16 (by decide) (hts _ (inA q994)) (fun _ h9 => h9) rfl dX8_make_72 ?_
  refine lv_iconst (v := 1) hx hb dX8_make_75 (by decide) ?_
  refine lv_iadd hx hb dX8_make_76 ?_
  refine va_put (D := D) (ci := 8) (v := .int (o_T.1 + 1)) (ty := .int) (C := RX8) (T := TX8) (N := 48) hx hb hts layX8 tyX8 tyX8_ok nmX8 hown hK hP hD hS 0 rfl rfl 16 (by decide) (hts _ (inA q994)) (fun _ h9 => h9) rfl (by decide +kernel) rfl rfl (Nat.le_of_ble_eq_true rfl) dX8_make_77 (fun H locs hP hD hS => ?_)
  have hP : va_P D vwCl (wM_T cI ad o_X o_L o_N (o_T.1 + 1, o_T.2.1, upd o_T.2.2.1 o_T.1.toNatClampNeg a1, upd o_T.2.2.2.1 o_T.1.toNatClampNeg a2, upd o_T.2.2.2.2.1 o_T.1.toNatClampNeg a3, upd o_T.2.2.2.2.2.1 o_T.1.toNatClampNeg (-1), upd o_T.2.2.2.2.2.2.1 o_T.1.toNatClampNeg (-1), upd o_T.2.2.2.2.2.2.2.1 o_T.1.toNatClampNeg (-1), upd o_T.2.2.2.2.2.2.2.2 o_T.1.toNatClampNeg (-1)) o_U o_O o_E o_Q o_V o_I) H := hP
  have hD : va_D A (wM_T cI ad o_X o_L o_N (o_T.1 + 1, o_T.2.1, upd o_T.2.2.1 o_T.1.toNatClampNeg a1, upd o_T.2.2.2.1 o_T.1.toNatClampNeg a2, upd o_T.2.2.2.2.1 o_T.1.toNatClampNeg a3, upd o_T.2.2.2.2.2.1 o_T.1.toNatClampNeg (-1), upd o_T.2.2.2.2.2.2.1 o_T.1.toNatClampNeg (-1), upd o_T.2.2.2.2.2.2.2.1 o_T.1.toNatClampNeg (-1), upd o_T.2.2.2.2.2.2.2.2 o_T.1.toNatClampNeg (-1)) o_U o_O o_E o_Q o_V o_I) := hD
  refine lv_aload_n hx hb dX8_make_80 rfl (lv_at hl 0 rfl) ?_
  refine va_get (D := D) (ci := 8) (v := .int (o_T.1 + 1)) (C := RX8) (T := TX8) (N := 48) hx hb hts layX8 hown hK hP 0 rfl rfl 16 (by decide) (hts _ (inA q994)) (fun _ h9 => h9) rfl dX8_make_81 ?_
  refine lv_iconst (v := 1) hx hb dX8_make_84 (by decide) ?_
  refine lv_isub hx hb dX8_make_85 ?_
  cases hM
  exact rt_i hx hb hr hlk hP hD hS rfl dX8_make_86

set_option maxHeartbeats 4000000 in
set_option maxRecDepth 100000 in
theorem c_Model_hang (l : Launch) (D : va_G) (cI : ClassId) (sd : Nat → Nat) (ad : Nat → Nat) (o_C : S_MC) (o_X : S_MX) (o_L : S_ML) (o_N : S_MN) (o_U : S_MU) (o_O : S_MO) (o_E : S_ME) (o_Q : S_MQ) (o_V : S_MV) (o_I : S_MI) (o_T : S_MT) (a1 : Int32) (a2 : Int32) (res : S_MT) (hM : f_Model_hang o_T a1 a2 = some res) : Ctr l D cI sd yX8_hang (wsM yX8_hang cX8_hang 3 (Option.none : Option Jvm.ClassFile.FieldType)) { frames := 0, cells := 0, slots := 0, locals := 0 } [.ref (ad 100), .int a1, .int a2] (wM_T cI ad o_X o_L o_N o_T o_U o_O o_E o_Q o_V o_I) (wM_T cI ad o_X o_L o_N res o_U o_O o_E o_Q o_V o_I) none := by
  refine Ctr.of (cc := cX8_hang) (maxL := 3) (own := RX8) (by decide +kernel) rfl rfl (Nat.le_of_ble_eq_true rfl) ?_
  intro p e s m below meth c A ls hx hb hr hml hown hts hlk hK hE hA hP hD hS hl
  have hl : lv_has ls 3 [(0, .ref (ad 100)), (1, .int a1), (2, .int a2)] := hl
  unfold f_Model_hang at hM
  refine lv_aload_n hx hb dX8_hang_0 rfl (lv_at hl 0 rfl) ?_
  refine va_get (D := D) (ci := 8) (v := .ref (ad 111)) (C := RX8) (T := TX8) (N := 48) hx hb hts layX8 hown hK hP 0 rfl rfl 20 (by decide) (hts _ (inA q998)) (fun _ h9 => h9) rfl dX8_hang_1 ?_
  refine lv_iload_n hx hb dX8_hang_4 rfl (lv_at hl 1 rfl) ?_
  refine lv_iload_n hx hb dX8_hang_5 rfl (lv_at hl 2 rfl) ?_
  obtain ⟨b1, hM⟩ := gd_use hM
  refine va_iast hx hb hK hP hD hS 4 0 rfl rfl b1 dX8_hang_6 (fun H locs hP hD hS => ?_)
  have hP : va_P D vwCl (wM_T cI ad o_X o_L o_N (o_T.1, o_T.2.1, o_T.2.2.1, o_T.2.2.2.1, o_T.2.2.2.2.1, upd o_T.2.2.2.2.2.1 a1.toNatClampNeg a2, o_T.2.2.2.2.2.2) o_U o_O o_E o_Q o_V o_I) H := hP
  have hD : va_D A (wM_T cI ad o_X o_L o_N (o_T.1, o_T.2.1, o_T.2.2.1, o_T.2.2.2.1, o_T.2.2.2.2.1, upd o_T.2.2.2.2.2.1 a1.toNatClampNeg a2, o_T.2.2.2.2.2.2) o_U o_O o_E o_Q o_V o_I) := hD
  refine lv_aload_n hx hb dX8_hang_7 rfl (lv_at hl 0 rfl) ?_
  refine va_get (D := D) (ci := 8) (v := .ref (ad 112)) (C := RX8) (T := TX8) (N := 48) hx hb hts layX8 hown hK hP 0 rfl rfl 21 (by decide) (hts _ (inA q999)) (fun _ h9 => h9) rfl dX8_hang_8 ?_
  refine lv_iload_n hx hb dX8_hang_11 rfl (lv_at hl 2 rfl) ?_
  obtain ⟨b2, hM⟩ := gd_use hM
  refine va_iald hx hb hK hP 5 0 rfl rfl b2 dX8_hang_12 ?_
  refine lv_iconst (v := (-1)) hx hb dX8_hang_13 (by decide) ?_
  refine lv_icmp_ne (tgt := 27) hx hb dX8_hang_14 (by decide) (fun c3 => ?_) (fun c3 => ?_)
  · replace hM := if_f c3 hM
    refine lv_aload_n hx hb dX8_hang_27 rfl (lv_at hl 0 rfl) ?_
    refine va_get (D := D) (ci := 8) (v := .ref (ad 114)) (C := RX8) (T := TX8) (N := 48) hx hb hts layX8 hown hK hP 0 rfl rfl 23 (by decide) (hts _ (inA q1001)) (fun _ h9 => h9) rfl dX8_hang_28 ?_
    refine lv_aload_n hx hb dX8_hang_31 rfl (lv_at hl 0 rfl) ?_
    refine va_get (D := D) (ci := 8) (v := .ref (ad 113)) (C := RX8) (T := TX8) (N := 48) hx hb hts layX8 hown hK hP 0 rfl rfl 22 (by decide) (hts _ (inA q1000)) (fun _ h9 => h9) rfl dX8_hang_32 ?_
    refine lv_iload_n hx hb dX8_hang_35 rfl (lv_at hl 2 rfl) ?_
    obtain ⟨b4, hM⟩ := gd_use hM
    refine va_iald hx hb hK hP 6 0 rfl rfl b4 dX8_hang_36 ?_
    refine lv_iload_n hx hb dX8_hang_37 rfl (lv_at hl 1 rfl) ?_
    obtain ⟨b5, hM⟩ := gd_use hM
    refine va_iast hx hb hK hP hD hS 7 0 rfl rfl b5 dX8_hang_38 (fun H locs hP hD hS => ?_)
    have hP : va_P D vwCl (wM_T cI ad o_X o_L o_N (o_T.1, o_T.2.1, o_T.2.2.1, o_T.2.2.2.1, o_T.2.2.2.2.1, upd o_T.2.2.2.2.2.1 a1.toNatClampNeg a2, o_T.2.2.2.2.2.2.1, o_T.2.2.2.2.2.2.2.1, upd o_T.2.2.2.2.2.2.2.2 (o_T.2.2.2.2.2.2.2.1 a2.toNatClampNeg).toNatClampNeg a1) o_U o_O o_E o_Q o_V o_I) H := hP
    have hD : va_D A (wM_T cI ad o_X o_L o_N (o_T.1, o_T.2.1, o_T.2.2.1, o_T.2.2.2.1, o_T.2.2.2.2.1, upd o_T.2.2.2.2.2.1 a1.toNatClampNeg a2, o_T.2.2.2.2.2.2.1, o_T.2.2.2.2.2.2.2.1, upd o_T.2.2.2.2.2.2.2.2 (o_T.2.2.2.2.2.2.2.1 a2.toNatClampNeg).toNatClampNeg a1) o_U o_O o_E o_Q o_V o_I) := hD
    refine lv_aload_n hx hb dX8_hang_39 rfl (lv_at hl 0 rfl) ?_
    refine va_get (D := D) (ci := 8) (v := .ref (ad 113)) (C := RX8) (T := TX8) (N := 48) hx hb hts layX8 hown hK hP 0 rfl rfl 22 (by decide) (hts _ (inA q1000)) (fun _ h9 => h9) rfl dX8_hang_40 ?_
    refine lv_iload_n hx hb dX8_hang_43 rfl (lv_at hl 2 rfl) ?_
    refine lv_iload_n hx hb dX8_hang_44 rfl (lv_at hl 1 rfl) ?_
    obtain ⟨b6, hM⟩ := gd_use hM
    refine va_iast hx hb hK hP hD hS 6 0 rfl rfl b6 dX8_hang_45 (fun H locs hP hD hS => ?_)
    have hP : va_P D vwCl (wM_T cI ad o_X o_L o_N (o_T.1, o_T.2.1, o_T.2.2.1, o_T.2.2.2.1, o_T.2.2.2.2.1, upd o_T.2.2.2.2.2.1 a1.toNatClampNeg a2, o_T.2.2.2.2.2.2.1, upd o_T.2.2.2.2.2.2.2.1 a2.toNatClampNeg a1, upd o_T.2.2.2.2.2.2.2.2 (o_T.2.2.2.2.2.2.2.1 a2.toNatClampNeg).toNatClampNeg a1) o_U o_O o_E o_Q o_V o_I) H := hP
    have hD : va_D A (wM_T cI ad o_X o_L o_N (o_T.1, o_T.2.1, o_T.2.2.1, o_T.2.2.2.1, o_T.2.2.2.2.1, upd o_T.2.2.2.2.2.1 a1.toNatClampNeg a2, o_T.2.2.2.2.2.2.1, upd o_T.2.2.2.2.2.2.2.1 a2.toNatClampNeg a1, upd o_T.2.2.2.2.2.2.2.2 (o_T.2.2.2.2.2.2.2.1 a2.toNatClampNeg).toNatClampNeg a1) o_U o_O o_E o_Q o_V o_I) := hD
    cases hM
    exact rt_v hx hb hr hlk hP hD hS rfl dX8_hang_46
  · replace hM := if_t c3 hM
    refine lv_aload_n hx hb dX8_hang_17 rfl (lv_at hl 0 rfl) ?_
    refine va_get (D := D) (ci := 8) (v := .ref (ad 112)) (C := RX8) (T := TX8) (N := 48) hx hb hts layX8 hown hK hP 0 rfl rfl 21 (by decide) (hts _ (inA q999)) (fun _ h9 => h9) rfl dX8_hang_18 ?_
    refine lv_iload_n hx hb dX8_hang_21 rfl (lv_at hl 2 rfl) ?_
    refine lv_iload_n hx hb dX8_hang_22 rfl (lv_at hl 1 rfl) ?_
    obtain ⟨b7, hM⟩ := gd_use hM
    refine va_iast hx hb hK hP hD hS 5 0 rfl rfl b7 dX8_hang_23 (fun H locs hP hD hS => ?_)
    have hP : va_P D vwCl (wM_T cI ad o_X o_L o_N (o_T.1, o_T.2.1, o_T.2.2.1, o_T.2.2.2.1, o_T.2.2.2.2.1, upd o_T.2.2.2.2.2.1 a1.toNatClampNeg a2, upd o_T.2.2.2.2.2.2.1 a2.toNatClampNeg a1, o_T.2.2.2.2.2.2.2) o_U o_O o_E o_Q o_V o_I) H := hP
    have hD : va_D A (wM_T cI ad o_X o_L o_N (o_T.1, o_T.2.1, o_T.2.2.1, o_T.2.2.2.1, o_T.2.2.2.2.1, upd o_T.2.2.2.2.2.1 a1.toNatClampNeg a2, upd o_T.2.2.2.2.2.2.1 a2.toNatClampNeg a1, o_T.2.2.2.2.2.2.2) o_U o_O o_E o_Q o_V o_I) := hD
    refine lv_goto (tgt := 39) hx hb dX8_hang_24 (by decide) ?_
    refine lv_aload_n hx hb dX8_hang_39 rfl (lv_at hl 0 rfl) ?_
    refine va_get (D := D) (ci := 8) (v := .ref (ad 113)) (C := RX8) (T := TX8) (N := 48) hx hb hts layX8 hown hK hP 0 rfl rfl 22 (by decide) (hts _ (inA q1000)) (fun _ h9 => h9) rfl dX8_hang_40 ?_
    refine lv_iload_n hx hb dX8_hang_43 rfl (lv_at hl 2 rfl) ?_
    refine lv_iload_n hx hb dX8_hang_44 rfl (lv_at hl 1 rfl) ?_
    obtain ⟨b8, hM⟩ := gd_use hM
    refine va_iast hx hb hK hP hD hS 6 0 rfl rfl b8 dX8_hang_45 (fun H locs hP hD hS => ?_)
    have hP : va_P D vwCl (wM_T cI ad o_X o_L o_N (o_T.1, o_T.2.1, o_T.2.2.1, o_T.2.2.2.1, o_T.2.2.2.2.1, upd o_T.2.2.2.2.2.1 a1.toNatClampNeg a2, upd o_T.2.2.2.2.2.2.1 a2.toNatClampNeg a1, upd o_T.2.2.2.2.2.2.2.1 a2.toNatClampNeg a1, o_T.2.2.2.2.2.2.2.2) o_U o_O o_E o_Q o_V o_I) H := hP
    have hD : va_D A (wM_T cI ad o_X o_L o_N (o_T.1, o_T.2.1, o_T.2.2.1, o_T.2.2.2.1, o_T.2.2.2.2.1, upd o_T.2.2.2.2.2.1 a1.toNatClampNeg a2, upd o_T.2.2.2.2.2.2.1 a2.toNatClampNeg a1, upd o_T.2.2.2.2.2.2.2.1 a2.toNatClampNeg a1, o_T.2.2.2.2.2.2.2.2) o_U o_O o_E o_Q o_V o_I) := hD
    cases hM
    exact rt_v hx hb hr hlk hP hD hS rfl dX8_hang_46

set_option maxHeartbeats 4000000 in
set_option maxRecDepth 100000 in
theorem c_Model_leaf (l : Launch) (D : va_G) (cI : ClassId) (sd : Nat → Nat) (ad : Nat → Nat) (o_C : S_MC) (o_X : S_MX) (o_L : S_ML) (o_N : S_MN) (o_U : S_MU) (o_O : S_MO) (o_E : S_ME) (o_Q : S_MQ) (o_V : S_MV) (o_I : S_MI) (o_T : S_MT) (a1 : Int32) (a2 : Int32) (a3 : Int32) (res : S_MT) (hM : f_Model_leaf o_T a1 a2 a3 = some res) : Ctr l D cI sd yX8_leaf (wsM yX8_leaf cX8_leaf 4 (Option.none : Option Jvm.ClassFile.FieldType)) { frames := 1, cells := 0, slots := 0, locals := 23 } [.ref (ad 100), .int a1, .int a2, .int a3] (wM_T cI ad o_X o_L o_N o_T o_U o_O o_E o_Q o_V o_I) (wM_T cI ad o_X o_L o_N res o_U o_O o_E o_Q o_V o_I) none := by
  refine Ctr.of (cc := cX8_leaf) (maxL := 4) (own := RX8) (by decide +kernel) rfl rfl (Nat.le_of_ble_eq_true rfl) ?_
  intro p e s m below meth c A ls hx hb hr hml hown hts hlk hK hE hA hP hD hS hl
  have hl : lv_has ls 4 [(0, .ref (ad 100)), (1, .int a1), (2, .int a2), (3, .int a3)] := hl
  unfold f_Model_leaf at hM
  refine lv_aload_n hx hb dX8_leaf_0 rfl (lv_at hl 0 rfl) ?_
  refine lv_aload_n hx hb dX8_leaf_1 rfl (lv_at hl 0 rfl) ?_
  refine lv_iload_n hx hb dX8_leaf_2 rfl (lv_at hl 1 rfl) ?_
  refine lv_iload_n hx hb dX8_leaf_3 rfl (lv_at hl 2 rfl) ?_
  refine lv_iload_n hx hb dX8_leaf_4 rfl (lv_at hl 3 rfl) ?_
  obtain ⟨r1, hcr1, hM⟩ := ob_use hM
  refine cl_V (As := [.int a1, .int a2, .int a3]) (rest := [.ref (ad 100)]) (wM_T cI ad o_X o_L o_N r1.2 o_U o_O o_E o_Q o_V o_I) (.int r1.1 :: [.ref (ad 100)]) ⟨hx, hb, hml, hown, hts⟩ (c_Model_make l D cI sd ad o_C o_X o_L o_N o_U o_O o_E o_Q o_V o_I o_T a1 a2 a3 r1 hcr1) (cwV2 hts q1143 mvX8_make rfl rfl ⟨(Nat.le_of_ble_eq_true rfl), (Nat.le_of_ble_eq_true rfl)⟩) hK hE hA hP hD hS 0 (T := TX8) (N := 48) (ci := 8) rfl rfl [0, 1, 2, 3, 4, 5, 6, 7] rfl (by decide) (mrgE rfl rfl) rfl rfl rfl rfl rfl hl.1 (Nat.le_of_ble_eq_true rfl) dX8_leaf_5 ⟨Nat.zero_le _, Nat.zero_le _⟩ (fun H locs hP hD hS => ?_)
  refine lv_aload_n hx hb dX8_leaf_8 rfl (lv_at hl 0 rfl) ?_
  refine va_get (D := D) (ci := 8) (v := .int r1.2.2.1) (C := RX8) (T := TX8) (N := 48) hx hb hts layX8 hown hK hP 0 rfl rfl 24 (by decide) (hts _ (inA q1002)) (fun _ h9 => h9) rfl dX8_leaf_9 ?_
  obtain ⟨r2, hcr2, hM⟩ := ob_use hM
  refine cl_V (As := [.int r1.1, .int r1.2.2.1]) (rest := []) (wM_T cI ad o_X o_L o_N r2 o_U o_O o_E o_Q o_V o_I) [] ⟨hx, hb, hml, hown, hts⟩ (c_Model_hang l D cI sd ad o_C o_X o_L o_N o_U o_O o_E o_Q o_V o_I r1.2 r1.1 r1.2.2.1 r2 hcr2) (cwV2 hts q1249 mvX8_hang rfl rfl ⟨(Nat.le_of_ble_eq_true rfl), (Nat.le_of_ble_eq_true rfl)⟩) hK hE hA hP hD hS 0 (T := TX8) (N := 48) (ci := 8) rfl rfl [0, 1, 2, 3, 4, 5, 6, 7] rfl (by decide) (mrgE rfl rfl) rfl rfl rfl rfl rfl hl.1 (Nat.le_of_ble_eq_true rfl) dX8_leaf_12 ⟨Nat.zero_le _, Nat.zero_le _⟩ (fun H locs hP hD hS => ?_)
  cases hM
  exact rt_v hx hb hr hlk hP hD hS rfl dX8_leaf_15

set_option maxHeartbeats 4000000 in
set_option maxRecDepth 100000 in
theorem c_Model_down (l : Launch) (D : va_G) (cI : ClassId) (sd : Nat → Nat) (ad : Nat → Nat) (o_C : S_MC) (o_X : S_MX) (o_L : S_ML) (o_N : S_MN) (o_U : S_MU) (o_O : S_MO) (o_E : S_ME) (o_Q : S_MQ) (o_V : S_MV) (o_I : S_MI) (o_T : S_MT) (a1 : Int32) (a2 : Int32) (a3 : Int32) (res : S_MT) (hM : f_Model_down o_T a1 a2 a3 = some res) : Ctr l D cI sd yX8_down (wsM yX8_down cX8_down 5 (Option.none : Option Jvm.ClassFile.FieldType)) { frames := 1, cells := 0, slots := 0, locals := 23 } [.ref (ad 100), .int a1, .int a2, .int a3] (wM_T cI ad o_X o_L o_N o_T o_U o_O o_E o_Q o_V o_I) (wM_T cI ad o_X o_L o_N res o_U o_O o_E o_Q o_V o_I) none := by
  refine Ctr.of (cc := cX8_down) (maxL := 5) (own := RX8) (by decide +kernel) rfl rfl (Nat.le_of_ble_eq_true rfl) ?_
  intro p e s m below meth c A ls hx hb hr hml hown hts hlk hK hE hA hP hD hS hl
  have hl : lv_has ls 5 [(0, .ref (ad 100)), (1, .int a1), (2, .int a2), (3, .int a3)] := hl
  unfold f_Model_down at hM
  refine lv_aload_n hx hb dX8_down_0 rfl (lv_at hl 0 rfl) ?_
  refine lv_iload_n hx hb dX8_down_1 rfl (lv_at hl 1 rfl) ?_
  refine lv_iload_n hx hb dX8_down_2 rfl (lv_at hl 2 rfl) ?_
  refine lv_iload_n hx hb dX8_down_3 rfl (lv_at hl 3 rfl) ?_
  obtain ⟨r1, hcr1, hM⟩ := ob_use hM
  refine cl_V (As := [.int a1, .int a2, .int a3]) (rest := []) (wM_T cI ad o_X o_L o_N r1.2 o_U o_O o_E o_Q o_V o_I) (.int r1.1 :: []) ⟨hx, hb, hml, hown, hts⟩ (c_Model_make l D cI sd ad o_C o_X o_L o_N o_U o_O o_E o_Q o_V o_I o_T a1 a2 a3 r1 hcr1) (cwV2 hts q1143 mvX8_make rfl rfl ⟨(Nat.le_of_ble_eq_true rfl), (Nat.le_of_ble_eq_true rfl)⟩) hK hE hA hP hD hS 0 (T := TX8) (N := 48) (ci := 8) rfl rfl [0, 1, 2, 3, 4, 5, 6, 7] rfl (by decide) (mrgE rfl rfl) rfl rfl rfl rfl rfl hl.1 (Nat.le_of_ble_eq_true rfl) dX8_down_4 ⟨Nat.zero_le _, Nat.zero_le _⟩ (fun H locs hP hD hS => ?_)
  refine lv_istore (lv' := [(4, .int r1.1), (0, .ref (ad 100)), (1, .int a1), (2, .int a2), (3, .int a3)]) hx hb dX8_down_7 hl (by decide) rfl (fun ls hl => ?_)
  refine lv_aload_n hx hb dX8_down_9 rfl (lv_at hl 1 rfl) ?_
  refine lv_iload hx hb dX8_down_10 (lv_at hl 0 rfl) ?_
  refine lv_aload_n hx hb dX8_down_12 rfl (lv_at hl 1 rfl) ?_
  refine va_get (D := D) (ci := 8) (v := .int r1.2.2.1) (C := RX8) (T := TX8) (N := 48) hx hb hts layX8 hown hK hP 0 rfl rfl 24 (by decide) (hts _ (inA q1002)) (fun _ h9 => h9) rfl dX8_down_13 ?_
  obtain ⟨r2, hcr2, hM⟩ := ob_use hM
  refine cl_V (As := [.int r1.1, .int r1.2.2.1]) (rest := []) (wM_T cI ad o_X o_L o_N r2 o_U o_O o_E o_Q o_V o_I) [] ⟨hx, hb, hml, hown, hts⟩ (c_Model_hang l D cI sd ad o_C o_X o_L o_N o_U o_O o_E o_Q o_V o_I r1.2 r1.1 r1.2.2.1 r2 hcr2) (cwV2 hts q1249 mvX8_hang rfl rfl ⟨(Nat.le_of_ble_eq_true rfl), (Nat.le_of_ble_eq_true rfl)⟩) hK hE hA hP hD hS 0 (T := TX8) (N := 48) (ci := 8) rfl rfl [0, 1, 2, 3, 4, 5, 6, 7] rfl (by decide) (mrgE rfl rfl) rfl rfl rfl rfl rfl hl.1 (Nat.le_of_ble_eq_true rfl) dX8_down_16 ⟨Nat.zero_le _, Nat.zero_le _⟩ (fun H locs hP hD hS => ?_)
  refine lv_aload_n hx hb dX8_down_19 rfl (lv_at hl 1 rfl) ?_
  refine lv_iload hx hb dX8_down_20 (lv_at hl 0 rfl) ?_
  refine va_put (D := D) (ci := 8) (v := .int r1.1) (ty := .int) (C := RX8) (T := TX8) (N := 48) hx hb hts layX8 tyX8 tyX8_ok nmX8 hown hK hP hD hS 0 rfl rfl 24 (by decide) (hts _ (inA q1002)) (fun _ h9 => h9) rfl (by decide +kernel) rfl rfl (Nat.le_of_ble_eq_true rfl) dX8_down_22 (fun H locs hP hD hS => ?_)
  have hP : va_P D vwCl (wM_T cI ad o_X o_L o_N (r2.1, r1.1, r2.2.2) o_U o_O o_E o_Q o_V o_I) H := hP
  have hD : va_D A (wM_T cI ad o_X o_L o_N (r2.1, r1.1, r2.2.2) o_U o_O o_E o_Q o_V o_I) := hD
  cases hM
  exact rt_v hx hb hr hlk hP hD hS rfl dX8_down_25

set_option maxHeartbeats 4000000 in
set_option maxRecDepth 100000 in
theorem c_Model_push (l : Launch) (D : va_G) (cI : ClassId) (sd : Nat → Nat) (ad : Nat → Nat) (o_C : S_MC) (o_X : S_MX) (o_L : S_ML) (o_N : S_MN) (o_T : S_MT) (o_O : S_MO) (o_E : S_ME) (o_Q : S_MQ) (o_V : S_MV) (o_I : S_MI) (o_U : S_MU) (a1 : Int32) (res : S_MU) (hM : f_Model_push o_U a1 = some res) : Ctr l D cI sd yX8_push (wsM yX8_push cX8_push 2 (Option.none : Option Jvm.ClassFile.FieldType)) { frames := 0, cells := 0, slots := 0, locals := 0 } [.ref (ad 100), .int a1] (wM_U cI ad o_X o_L o_N o_T o_U o_O o_E o_Q o_V o_I) (wM_U cI ad o_X o_L o_N o_T res o_O o_E o_Q o_V o_I) none := by
  refine Ctr.of (cc := cX8_push) (maxL := 2) (own := RX8) (by decide +kernel) rfl rfl (Nat.le_of_ble_eq_true rfl) ?_
  intro p e s m below meth c A ls hx hb hr hml hown hts hlk hK hE hA hP hD hS hl
  have hl : lv_has ls 2 [(0, .ref (ad 100)), (1, .int a1)] := hl
  unfold f_Model_push at hM
  refine lv_aload_n hx hb dX8_push_0 rfl (lv_at hl 0 rfl) ?_
  refine va_get (D := D) (ci := 8) (v := .ref (ad 115)) (C := RX8) (T := TX8) (N := 48) hx hb hts layX8 hown hK hP 0 rfl rfl 26 (by decide) (hts _ (inA q1004)) (fun _ h9 => h9) rfl dX8_push_1 ?_
  refine lv_aload_n hx hb dX8_push_4 rfl (lv_at hl 0 rfl) ?_
  refine va_get (D := D) (ci := 8) (v := .int o_U.1) (C := RX8) (T := TX8) (N := 48) hx hb hts layX8 hown hK hP 0 rfl rfl 25 (by decide) (hts _ (inA q1003)) (fun _ h9 => h9) rfl dX8_push_5 ?_
  refine lv_iload_n hx hb dX8_push_8 rfl (lv_at hl 1 rfl) ?_
  obtain ⟨b1, hM⟩ := gd_use hM
  refine va_iast hx hb hK hP hD hS 1 0 rfl rfl b1 dX8_push_9 (fun H locs hP hD hS => ?_)
  have hP : va_P D vwCl (wM_U cI ad o_X o_L o_N o_T (o_U.1, upd o_U.2 o_U.1.toNatClampNeg a1) o_O o_E o_Q o_V o_I) H := hP
  have hD : va_D A (wM_U cI ad o_X o_L o_N o_T (o_U.1, upd o_U.2 o_U.1.toNatClampNeg a1) o_O o_E o_Q o_V o_I) := hD
  refine lv_aload_n hx hb dX8_push_10 rfl (lv_at hl 0 rfl) ?_
  refine lv_dup hx hb dX8_push_11 rfl ?_
  refine va_get (D := D) (ci := 8) (v := .int o_U.1) (C := RX8) (T := TX8) (N := 48) hx hb hts layX8 hown hK hP 0 rfl rfl 25 (by decide) (hts _ (inA q1003)) (fun _ h9 => h9) rfl dX8_push_12 ?_
  refine lv_iconst (v := 1) hx hb dX8_push_15 (by decide) ?_
  refine lv_iadd hx hb dX8_push_16 ?_
  refine va_put (D := D) (ci := 8) (v := .int (o_U.1 + 1)) (ty := .int) (C := RX8) (T := TX8) (N := 48) hx hb hts layX8 tyX8 tyX8_ok nmX8 hown hK hP hD hS 0 rfl rfl 25 (by decide) (hts _ (inA q1003)) (fun _ h9 => h9) rfl (by decide +kernel) rfl rfl (Nat.le_of_ble_eq_true rfl) dX8_push_17 (fun H locs hP hD hS => ?_)
  have hP : va_P D vwCl (wM_U cI ad o_X o_L o_N o_T (o_U.1 + 1, upd o_U.2 o_U.1.toNatClampNeg a1) o_O o_E o_Q o_V o_I) H := hP
  have hD : va_D A (wM_U cI ad o_X o_L o_N o_T (o_U.1 + 1, upd o_U.2 o_U.1.toNatClampNeg a1) o_O o_E o_Q o_V o_I) := hD
  cases hM
  exact rt_v hx hb hr hlk hP hD hS rfl dX8_push_20

set_option maxHeartbeats 4000000 in
set_option maxRecDepth 100000 in
theorem c_Model_push2 (l : Launch) (D : va_G) (cI : ClassId) (sd : Nat → Nat) (ad : Nat → Nat) (o_C : S_MC) (o_X : S_MX) (o_L : S_ML) (o_N : S_MN) (o_T : S_MT) (o_O : S_MO) (o_E : S_ME) (o_Q : S_MQ) (o_V : S_MV) (o_I : S_MI) (o_U : S_MU) (a1 : Int32) (a2 : Int32) (res : S_MU) (hM : f_Model_push2 o_U a1 a2 = some res) : Ctr l D cI sd yX8_push2 (wsM yX8_push2 cX8_push2 3 (Option.none : Option Jvm.ClassFile.FieldType)) { frames := 1, cells := 0, slots := 0, locals := 21 } [.ref (ad 100), .int a1, .int a2] (wM_U cI ad o_X o_L o_N o_T o_U o_O o_E o_Q o_V o_I) (wM_U cI ad o_X o_L o_N o_T res o_O o_E o_Q o_V o_I) none := by
  refine Ctr.of (cc := cX8_push2) (maxL := 3) (own := RX8) (by decide +kernel) rfl rfl (Nat.le_of_ble_eq_true rfl) ?_
  intro p e s m below meth c A ls hx hb hr hml hown hts hlk hK hE hA hP hD hS hl
  have hl : lv_has ls 3 [(0, .ref (ad 100)), (1, .int a1), (2, .int a2)] := hl
  unfold f_Model_push2 at hM
  refine lv_aload_n hx hb dX8_push2_0 rfl (lv_at hl 0 rfl) ?_
  refine lv_iload_n hx hb dX8_push2_1 rfl (lv_at hl 1 rfl) ?_
  obtain ⟨r1, hcr1, hM⟩ := ob_use hM
  refine cl_V (As := [.int a1]) (rest := []) (wM_U cI ad o_X o_L o_N o_T r1 o_O o_E o_Q o_V o_I) [] ⟨hx, hb, hml, hown, hts⟩ (c_Model_push l D cI sd ad o_C o_X o_L o_N o_T o_O o_E o_Q o_V o_I o_U a1 r1 hcr1) (cwV2 hts q1147 mvX8_push rfl rfl ⟨(Nat.le_of_ble_eq_true rfl), (Nat.le_of_ble_eq_true rfl)⟩) hK hE hA hP hD hS 0 (T := TX8) (N := 48) (ci := 8) rfl rfl [0, 1] rfl (by decide) rfl rfl rfl rfl rfl rfl hl.1 (Nat.le_of_ble_eq_true rfl) dX8_push2_2 ⟨Nat.zero_le _, Nat.zero_le _⟩ (fun H locs hP hD hS => ?_)
  refine lv_aload_n hx hb dX8_push2_5 rfl (lv_at hl 0 rfl) ?_
  refine lv_iload_n hx hb dX8_push2_6 rfl (lv_at hl 2 rfl) ?_
  obtain ⟨r2, hcr2, hM⟩ := ob_use hM
  refine cl_V (As := [.int a2]) (rest := []) (wM_U cI ad o_X o_L o_N o_T r2 o_O o_E o_Q o_V o_I) [] ⟨hx, hb, hml, hown, hts⟩ (c_Model_push l D cI sd ad o_C o_X o_L o_N o_T o_O o_E o_Q o_V o_I r1 a2 r2 hcr2) (cwV2 hts q1147 mvX8_push rfl rfl ⟨(Nat.le_of_ble_eq_true rfl), (Nat.le_of_ble_eq_true rfl)⟩) hK hE hA hP hD hS 0 (T := TX8) (N := 48) (ci := 8) rfl rfl [0, 1] rfl (by decide) rfl rfl rfl rfl rfl rfl hl.1 (Nat.le_of_ble_eq_true rfl) dX8_push2_7 ⟨Nat.zero_le _, Nat.zero_le _⟩ (fun H locs hP hD hS => ?_)
  cases hM
  exact rt_v hx hb hr hlk hP hD hS rfl dX8_push2_10

set_option maxHeartbeats 4000000 in
set_option maxRecDepth 100000 in
theorem c_Model_push4 (l : Launch) (D : va_G) (cI : ClassId) (sd : Nat → Nat) (ad : Nat → Nat) (o_C : S_MC) (o_X : S_MX) (o_L : S_ML) (o_N : S_MN) (o_T : S_MT) (o_O : S_MO) (o_E : S_ME) (o_Q : S_MQ) (o_V : S_MV) (o_I : S_MI) (o_U : S_MU) (a1 : Int32) (a2 : Int32) (a3 : Int32) (a4 : Int32) (res : S_MU) (hM : f_Model_push4 o_U a1 a2 a3 a4 = some res) : Ctr l D cI sd yX8_push4 (wsM yX8_push4 cX8_push4 5 (Option.none : Option Jvm.ClassFile.FieldType)) { frames := 2, cells := 0, slots := 0, locals := 43 } [.ref (ad 100), .int a1, .int a2, .int a3, .int a4] (wM_U cI ad o_X o_L o_N o_T o_U o_O o_E o_Q o_V o_I) (wM_U cI ad o_X o_L o_N o_T res o_O o_E o_Q o_V o_I) none := by
  refine Ctr.of (cc := cX8_push4) (maxL := 5) (own := RX8) (by decide +kernel) rfl rfl (Nat.le_of_ble_eq_true rfl) ?_
  intro p e s m below meth c A ls hx hb hr hml hown hts hlk hK hE hA hP hD hS hl
  have hl : lv_has ls 5 [(0, .ref (ad 100)), (1, .int a1), (2, .int a2), (3, .int a3), (4, .int a4)] := hl
  unfold f_Model_push4 at hM
  refine lv_aload_n hx hb dX8_push4_0 rfl (lv_at hl 0 rfl) ?_
  refine lv_iload_n hx hb dX8_push4_1 rfl (lv_at hl 1 rfl) ?_
  refine lv_iload_n hx hb dX8_push4_2 rfl (lv_at hl 2 rfl) ?_
  obtain ⟨r1, hcr1, hM⟩ := ob_use hM
  refine cl_V (As := [.int a1, .int a2]) (rest := []) (wM_U cI ad o_X o_L o_N o_T r1 o_O o_E o_Q o_V o_I) [] ⟨hx, hb, hml, hown, hts⟩ (c_Model_push2 l D cI sd ad o_C o_X o_L o_N o_T o_O o_E o_Q o_V o_I o_U a1 a2 r1 hcr1) (cwV2 hts q1257 mvX8_push2 rfl rfl ⟨(Nat.le_of_ble_eq_true rfl), (Nat.le_of_ble_eq_true rfl)⟩) hK hE hA hP hD hS 0 (T := TX8) (N := 48) (ci := 8) rfl rfl [0, 1] rfl (by decide) rfl rfl rfl rfl rfl rfl hl.1 (Nat.le_of_ble_eq_true rfl) dX8_push4_3 ⟨Nat.zero_le _, Nat.zero_le _⟩ (fun H locs hP hD hS => ?_)
  refine lv_aload_n hx hb dX8_push4_6 rfl (lv_at hl 0 rfl) ?_
  refine lv_iload_n hx hb dX8_push4_7 rfl (lv_at hl 3 rfl) ?_
  refine lv_iload hx hb dX8_push4_8 (lv_at hl 4 rfl) ?_
  obtain ⟨r2, hcr2, hM⟩ := ob_use hM
  refine cl_V (As := [.int a3, .int a4]) (rest := []) (wM_U cI ad o_X o_L o_N o_T r2 o_O o_E o_Q o_V o_I) [] ⟨hx, hb, hml, hown, hts⟩ (c_Model_push2 l D cI sd ad o_C o_X o_L o_N o_T o_O o_E o_Q o_V o_I r1 a3 a4 r2 hcr2) (cwV2 hts q1257 mvX8_push2 rfl rfl ⟨(Nat.le_of_ble_eq_true rfl), (Nat.le_of_ble_eq_true rfl)⟩) hK hE hA hP hD hS 0 (T := TX8) (N := 48) (ci := 8) rfl rfl [0, 1] rfl (by decide) rfl rfl rfl rfl rfl rfl hl.1 (Nat.le_of_ble_eq_true rfl) dX8_push4_10 ⟨Nat.zero_le _, Nat.zero_le _⟩ (fun H locs hP hD hS => ?_)
  cases hM
  exact rt_v hx hb hr hlk hP hD hS rfl dX8_push4_13

set_option maxHeartbeats 4000000 in
set_option maxRecDepth 100000 in
theorem c_Model_pushExpression (l : Launch) (D : va_G) (cI : ClassId) (sd : Nat → Nat) (ad : Nat → Nat) (o_C : S_MC) (o_X : S_MX) (o_L : S_ML) (o_N : S_MN) (o_T : S_MT) (o_O : S_MO) (o_E : S_ME) (o_Q : S_MQ) (o_V : S_MV) (o_I : S_MI) (o_U : S_MU) (res : S_MU) (hM : f_Model_pushExpression o_U = some res) : Ctr l D cI sd yX8_pushExpression (wsM yX8_pushExpression cX8_pushExpression 1 (Option.none : Option Jvm.ClassFile.FieldType)) { frames := 2, cells := 0, slots := 0, locals := 43 } [.ref (ad 100)] (wM_U cI ad o_X o_L o_N o_T o_U o_O o_E o_Q o_V o_I) (wM_U cI ad o_X o_L o_N o_T res o_O o_E o_Q o_V o_I) none := by
  refine Ctr.of (cc := cX8_pushExpression) (maxL := 1) (own := RX8) (by decide +kernel) rfl rfl (Nat.le_of_ble_eq_true rfl) ?_
  intro p e s m below meth c A ls hx hb hr hml hown hts hlk hK hE hA hP hD hS hl
  have hl : lv_has ls 1 [(0, .ref (ad 100))] := hl
  unfold f_Model_pushExpression at hM
  refine lv_aload_n hx hb dX8_pushExpression_0 rfl (lv_at hl 0 rfl) ?_
  refine lv_sipush (v := 137) hx hb dX8_pushExpression_1 (by decide) ?_
  refine lv_sipush (v := 134) hx hb dX8_pushExpression_4 (by decide) ?_
  obtain ⟨r1, hcr1, hM⟩ := ob_use hM
  refine cl_V (As := [.int 137, .int 134]) (rest := []) (wM_U cI ad o_X o_L o_N o_T r1 o_O o_E o_Q o_V o_I) [] ⟨hx, hb, hml, hown, hts⟩ (c_Model_push2 l D cI sd ad o_C o_X o_L o_N o_T o_O o_E o_Q o_V o_I o_U 137 134 r1 hcr1) (cwV2 hts q1257 mvX8_push2 rfl rfl ⟨(Nat.le_of_ble_eq_true rfl), (Nat.le_of_ble_eq_true rfl)⟩) hK hE hA hP hD hS 0 (T := TX8) (N := 48) (ci := 8) rfl rfl [0, 1] rfl (by decide) rfl rfl rfl rfl rfl rfl hl.1 (Nat.le_of_ble_eq_true rfl) dX8_pushExpression_7 ⟨Nat.zero_le _, Nat.zero_le _⟩ (fun H locs hP hD hS => ?_)
  cases hM
  exact rt_v hx hb hr hlk hP hD hS rfl dX8_pushExpression_10

set_option maxHeartbeats 4000000 in
set_option maxRecDepth 100000 in
theorem c_Model_wrong (l : Launch) (D : va_G) (cI : ClassId) (sd : Nat → Nat) (ad : Nat → Nat) (o_C : S_MC) (o_X : S_MX) (o_N : S_MN) (o_T : S_MT) (o_U : S_MU) (o_O : S_MO) (o_E : S_ME) (o_Q : S_MQ) (o_V : S_MV) (o_I : S_MI) (o_L : S_ML) (res : S_ML) (hM : f_Model_wrong o_L = some res) : Ctr l D cI sd yX8_wrong (wsM yX8_wrong cX8_wrong 1 (Option.none : Option Jvm.ClassFile.FieldType)) { frames := 1, cells := 0, slots := 0, locals := 22 } [.ref (ad 100)] (wM_L cI ad o_X o_L o_N o_T o_U o_O o_E o_Q o_V o_I) (wM_L cI ad o_X res o_N o_T o_U o_O o_E o_Q o_V o_I) none := by
  refine Ctr.of (cc := cX8_wrong) (maxL := 1) (own := RX8) (by decide +kernel) rfl rfl (Nat.le_of_ble_eq_true rfl) ?_
  intro p e s m below meth c A ls hx hb hr hml hown hts hlk hK hE hA hP hD hS hl
  have hl : lv_has ls 1 [(0, .ref (ad 100))] := hl
  unfold f_Model_wrong at hM
  refine lv_aload_n hx hb dX8_wrong_0 rfl (lv_at hl 0 rfl) ?_
  refine lv_bipush (v := 6) hx hb dX8_wrong_1 (by decide) ?_
  refine lv_aload_n hx hb dX8_wrong_3 rfl (lv_at hl 0 rfl) ?_
  refine va_get (D := D) (ci := 8) (v := .int o_L.1) (C := RX8) (T := TX8) (N := 48) hx hb hts layX8 hown hK hP 0 rfl rfl 6 (by decide) (hts _ (inA q984)) (fun _ h9 => h9) rfl dX8_wrong_4 ?_
  obtain ⟨r1, hcr1, hM⟩ := ob_use hM
  refine cl_V (As := [.int 6, .int o_L.1]) (rest := []) (wM_L cI ad o_X r1 o_N o_T o_U o_O o_E o_Q o_V o_I) [] ⟨hx, hb, hml, hown, hts⟩ (c_Model_fail l D cI sd ad o_C o_X o_N o_T o_U o_O o_E o_Q o_V o_I o_L 6 o_L.1 r1 hcr1) (cwV2 hts q1163 mvX8_fail rfl rfl ⟨(Nat.le_of_ble_eq_true rfl), (Nat.le_of_ble_eq_true rfl)⟩) hK hE hA hP hD hS 0 (T := TX8) (N := 48) (ci := 8) rfl rfl [0] rfl (by decide) rfl rfl rfl rfl rfl rfl hl.1 (Nat.le_of_ble_eq_true rfl) dX8_wrong_7 ⟨Nat.zero_le _, Nat.zero_le _⟩ (fun H locs hP hD hS => ?_)
  cases hM
  exact rt_v hx hb hr hlk hP hD hS rfl dX8_wrong_10

set_option maxHeartbeats 4000000 in
set_option maxRecDepth 100000 in
theorem c_Model_pass (l : Launch) (D : va_G) (cI : ClassId) (sd : Nat → Nat) (ad : Nat → Nat) (o_T : S_MT) (o_U : S_MU) (o_O : S_MO) (o_E : S_ME) (o_Q : S_MQ) (o_V : S_MV) (o_I : S_MI) (o_C : S_MC) (o_X : S_MX) (o_L : S_ML) (o_N : S_MN) (a1 : Int32) (res : S_ML × S_MN) (hM : f_Model_pass o_C o_X o_L o_N a1 = some res) : Ctr l D cI sd yX8_pass (wsM yX8_pass cX8_pass 2 (Option.none : Option Jvm.ClassFile.FieldType)) { frames := 5, cells := 0, slots := 0, locals := 112 } [.ref (ad 100), .int a1] (wM_CXLN cI ad o_X o_L o_N o_T o_U o_O o_E o_Q o_V o_I o_C) (wM_CXLN cI ad o_X res.1 res.2 o_T o_U o_O o_E o_Q o_V o_I o_C) none := by
  refine Ctr.of (cc := cX8_pass) (maxL := 2) (own := RX8) (by decide +kernel) rfl rfl (Nat.le_of_ble_eq_true rfl) ?_
  intro p e s m below meth c A ls hx hb hr hml hown hts hlk hK hE hA hP hD hS hl
  have hl : lv_has ls 2 [(0, .ref (ad 100)), (1, .int a1)] := hl
  unfold f_Model_pass at hM
  refine lv_aload_n hx hb dX8_pass_0 rfl (lv_at hl 0 rfl) ?_
  refine va_get (D := D) (ci := 8) (v := .int o_L.2.1) (C := RX8) (T := TX8) (N := 48) hx hb hts layX8 hown hK hP 0 rfl rfl 7 (by decide) (hts _ (inA q985)) (fun _ h9 => h9) rfl dX8_pass_1 ?_
  refine lv_iload_n hx hb dX8_pass_4 rfl (lv_at hl 1 rfl) ?_
  refine lv_icmp_ne (tgt := 15) hx hb dX8_pass_5 (by decide) (fun c1 => ?_) (fun c1 => ?_)
  · replace hM := if_f c1 hM
    refine lv_aload_n hx hb dX8_pass_15 rfl (lv_at hl 0 rfl) ?_
    obtain ⟨r2, hcr2, hM⟩ := ob_use hM
    refine cl_V (As := []) (rest := []) (wM_CXLN cI ad o_X r2 o_N o_T o_U o_O o_E o_Q o_V o_I o_C) [] ⟨hx, hb, hml, hown, hts⟩ (c_Model_wrong l D cI sd ad o_C o_X o_N o_T o_U o_O o_E o_Q o_V o_I o_L r2 hcr2) (cwV2 hts q1233 mvX8_wrong rfl rfl ⟨(Nat.le_of_ble_eq_true rfl), (Nat.le_of_ble_eq_true rfl)⟩) hK hE hA hP hD hS 0 (T := TX8) (N := 48) (ci := 8) rfl rfl [0] rfl (by decide) rfl rfl rfl rfl rfl rfl hl.1 (Nat.le_of_ble_eq_true rfl) dX8_pass_16 ⟨Nat.zero_le _, Nat.zero_le _⟩ (fun H locs hP hD hS => ?_)
    cases hM
    exact rt_v hx hb hr hlk hP hD hS rfl dX8_pass_19
  · replace hM := if_t c1 hM
    refine lv_aload_n hx hb dX8_pass_8 rfl (lv_at hl 0 rfl) ?_
    obtain ⟨r3, hcr3, hM⟩ := ob_use hM
    refine cl_V (As := []) (rest := []) (wM_CXLN cI ad o_X r3.1 r3.2 o_T o_U o_O o_E o_Q o_V o_I o_C) [] ⟨hx, hb, hml, hown, hts⟩ (c_Model_step l D cI sd ad o_T o_U o_O o_E o_Q o_V o_I o_C o_X o_L o_N r3 hcr3) (cwV2 hts q1151 mvX8_step rfl rfl ⟨(Nat.le_of_ble_eq_true rfl), (Nat.le_of_ble_eq_true rfl)⟩) hK hE hA hP hD hS 0 (T := TX8) (N := 48) (ci := 8) rfl rfl [0, 1, 2, 3, 4, 5, 6, 7] rfl (by decide) (mrgE rfl rfl) rfl rfl rfl rfl rfl hl.1 (Nat.le_of_ble_eq_true rfl) dX8_pass_9 ⟨Nat.zero_le _, Nat.zero_le _⟩ (fun H locs hP hD hS => ?_)
    refine lv_goto (tgt := 19) hx hb dX8_pass_12 (by decide) ?_
    cases hM
    exact rt_v hx hb hr hlk hP hD hS rfl dX8_pass_19

set_option maxHeartbeats 4000000 in
set_option maxRecDepth 100000 in
theorem c_Model_opens (l : Launch) (D : va_G) (cI : ClassId) (sd : Nat → Nat) (ad : Nat → Nat) (o_C : S_MC) (o_X : S_MX) (o_N : S_MN) (o_T : S_MT) (o_U : S_MU) (o_E : S_ME) (o_Q : S_MQ) (o_V : S_MV) (o_I : S_MI) (o_L : S_ML) (o_O : S_MO) (res : Int32 × S_ML × S_MO) (hM : f_Model_opens o_L o_O = some res) : Ctr l D cI sd yX8_opens (wsM yX8_opens cX8_opens 1 (Option.some Jvm.ClassFile.FieldType.boolean)) { frames := 1, cells := 0, slots := 0, locals := 22 } [.ref (ad 100)] (wM_LO cI ad o_X o_L o_N o_T o_U o_O o_E o_Q o_V o_I) (wM_LO cI ad o_X res.2.1 o_N o_T o_U res.2.2 o_E o_Q o_V o_I) (some (.int res.1)) := by
  refine Ctr.of (cc := cX8_opens) (maxL := 1) (own := RX8) (by decide +kernel) rfl rfl (Nat.le_of_ble_eq_true rfl) ?_
  intro p e s m below meth c A ls hx hb hr hml hown hts hlk hK hE hA hP hD hS hl
  have hl : lv_has ls 1 [(0, .ref (ad 100))] := hl
  unfold f_Model_opens at hM
  refine lv_aload_n hx hb dX8_opens_0 rfl (lv_at hl 0 rfl) ?_
  refine va_get (D := D) (ci := 8) (v := .int o_O.1) (C := RX8) (T := TX8) (N := 48) hx hb hts layX8 hown hK hP 0 rfl rfl 27 (by decide) (hts _ (inA q1005)) (fun _ h9 => h9) rfl dX8_opens_1 ?_
  refine lv_bipush (v := 60) hx hb dX8_opens_4 (by decide) ?_
  refine lv_icmp_ne (tgt := 21) hx hb dX8_opens_6 (by decide) (fun c1 => ?_) (fun c1 => ?_)
  · replace hM := if_f c1 hM
    refine lv_aload_n hx hb dX8_opens_21 rfl (lv_at hl 0 rfl) ?_
    refine lv_dup hx hb dX8_opens_22 rfl ?_
    refine va_get (D := D) (ci := 8) (v := .int o_O.1) (C := RX8) (T := TX8) (N := 48) hx hb hts layX8 hown hK hP 0 rfl rfl 27 (by decide) (hts _ (inA q1005)) (fun _ h9 => h9) rfl dX8_opens_23 ?_
    refine lv_iconst (v := 1) hx hb dX8_opens_26 (by decide) ?_
    refine lv_iadd hx hb dX8_opens_27 ?_
    refine va_put (D := D) (ci := 8) (v := .int (o_O.1 + 1)) (ty := .int) (C := RX8) (T := TX8) (N := 48) hx hb hts layX8 tyX8 tyX8_ok nmX8 hown hK hP hD hS 0 rfl rfl 27 (by decide) (hts _ (inA q1005)) (fun _ h9 => h9) rfl (by decide +kernel) rfl rfl (Nat.le_of_ble_eq_true rfl) dX8_opens_28 (fun H locs hP hD hS => ?_)
    have hP : va_P D vwCl (wM_LO cI ad o_X o_L o_N o_T o_U (o_O.1 + 1, o_O.2) o_E o_Q o_V o_I) H := hP
    have hD : va_D A (wM_LO cI ad o_X o_L o_N o_T o_U (o_O.1 + 1, o_O.2) o_E o_Q o_V o_I) := hD
    refine lv_iconst (v := 1) hx hb dX8_opens_31 (by decide) ?_
    cases hM
    exact rt_z hx hb hr hlk (by decide) hP hD hS rfl dX8_opens_32
  · replace hM := if_t c1 hM
    refine lv_aload_n hx hb dX8_opens_9 rfl (lv_at hl 0 rfl) ?_
    refine lv_bipush (v := 7) hx hb dX8_opens_10 (by decide) ?_
    refine lv_aload_n hx hb dX8_opens_12 rfl (lv_at hl 0 rfl) ?_
    refine va_get (D := D) (ci := 8) (v := .int o_L.1) (C := RX8) (T := TX8) (N := 48) hx hb hts layX8 hown hK hP 0 rfl rfl 6 (by decide) (hts _ (inA q984)) (fun _ h9 => h9) rfl dX8_opens_13 ?_
    obtain ⟨r2, hcr2, hM⟩ := ob_use hM
    refine cl_V (As := [.int 7, .int o_L.1]) (rest := []) (wM_LO cI ad o_X r2 o_N o_T o_U o_O o_E o_Q o_V o_I) [] ⟨hx, hb, hml, hown, hts⟩ (c_Model_fail l D cI sd ad o_C o_X o_N o_T o_U o_O o_E o_Q o_V o_I o_L 7 o_L.1 r2 hcr2) (cwV2 hts q1163 mvX8_fail rfl rfl ⟨(Nat.le_of_ble_eq_true rfl), (Nat.le_of_ble_eq_true rfl)⟩) hK hE hA hP hD hS 0 (T := TX8) (N := 48) (ci := 8) rfl rfl [0] rfl (by decide) rfl rfl rfl rfl rfl rfl hl.1 (Nat.le_of_ble_eq_true rfl) dX8_opens_16 ⟨Nat.zero_le _, Nat.zero_le _⟩ (fun H locs hP hD hS => ?_)
    refine lv_iconst (v := 0) hx hb dX8_opens_19 (by decide) ?_
    cases hM
    exact rt_z hx hb hr hlk (by decide) hP hD hS rfl dX8_opens_20

set_option maxHeartbeats 4000000 in
set_option maxRecDepth 100000 in
theorem c_Model_keepName (l : Launch) (D : va_G) (cI : ClassId) (sd : Nat → Nat) (ad : Nat → Nat) (o_C : S_MC) (o_X : S_MX) (o_N : S_MN) (o_T : S_MT) (o_U : S_MU) (o_E : S_ME) (o_Q : S_MQ) (o_V : S_MV) (o_I : S_MI) (o_L : S_ML) (o_O : S_MO) (res : S_MO) (hM : f_Model_keepName o_L o_O = some res) : Ctr l D cI sd yX8_keepName (wsM yX8_keepName cX8_keepName 1 (Option.none : Option Jvm.ClassFile.FieldType)) { frames := 0, cells := 0, slots := 0, locals := 0 } [.ref (ad 100)] (wM_LO cI ad o_X o_L o_N o_T o_U o_O o_E o_Q o_V o_I) (wM_LO cI ad o_X o_L o_N o_T o_U res o_E o_Q o_V o_I) none := by
  refine Ctr.of (cc := cX8_keepName) (maxL := 1) (own := RX8) (by decide +kernel) rfl rfl (Nat.le_of_ble_eq_true rfl) ?_
  intro p e s m below meth c A ls hx hb hr hml hown hts hlk hK hE hA hP hD hS hl
  have hl : lv_has ls 1 [(0, .ref (ad 100))] := hl
  unfold f_Model_keepName at hM
  refine lv_aload_n hx hb dX8_keepName_0 rfl (lv_at hl 0 rfl) ?_
  refine lv_aload_n hx hb dX8_keepName_1 rfl (lv_at hl 0 rfl) ?_
  refine va_get (D := D) (ci := 8) (v := .int o_L.1) (C := RX8) (T := TX8) (N := 48) hx hb hts layX8 hown hK hP 0 rfl rfl 6 (by decide) (hts _ (inA q984)) (fun _ h9 => h9) rfl dX8_keepName_2 ?_
  refine va_put (D := D) (ci := 8) (v := .int o_L.1) (ty := .int) (C := RX8) (T := TX8) (N := 48) hx hb hts layX8 tyX8 tyX8_ok nmX8 hown hK hP hD hS 0 rfl rfl 30 (by decide) (hts _ (inA q1008)) (fun _ h9 => h9) rfl (by decide +kernel) rfl rfl (Nat.le_of_ble_eq_true rfl) dX8_keepName_5 (fun H locs hP hD hS => ?_)
  have hP : va_P D vwCl (wM_LO cI ad o_X o_L o_N o_T o_U (o_O.1, o_O.2.1, o_O.2.2.1, o_L.1, o_O.2.2.2.2) o_E o_Q o_V o_I) H := hP
  have hD : va_D A (wM_LO cI ad o_X o_L o_N o_T o_U (o_O.1, o_O.2.1, o_O.2.2.1, o_L.1, o_O.2.2.2.2) o_E o_Q o_V o_I) := hD
  refine lv_aload_n hx hb dX8_keepName_8 rfl (lv_at hl 0 rfl) ?_
  refine lv_aload_n hx hb dX8_keepName_9 rfl (lv_at hl 0 rfl) ?_
  refine va_get (D := D) (ci := 8) (v := .int o_L.2.2.1) (C := RX8) (T := TX8) (N := 48) hx hb hts layX8 hown hK hP 0 rfl rfl 8 (by decide) (hts _ (inA q986)) (fun _ h9 => h9) rfl dX8_keepName_10 ?_
  refine va_put (D := D) (ci := 8) (v := .int o_L.2.2.1) (ty := .int) (C := RX8) (T := TX8) (N := 48) hx hb hts layX8 tyX8 tyX8_ok nmX8 hown hK hP hD hS 0 rfl rfl 31 (by decide) (hts _ (inA q1009)) (fun _ h9 => h9) rfl (by decide +kernel) rfl rfl (Nat.le_of_ble_eq_true rfl) dX8_keepName_13 (fun H locs hP hD hS => ?_)
  have hP : va_P D vwCl (wM_LO cI ad o_X o_L o_N o_T o_U (o_O.1, o_O.2.1, o_O.2.2.1, o_L.1, o_L.2.2.1, o_O.2.2.2.2.2) o_E o_Q o_V o_I) H := hP
  have hD : va_D A (wM_LO cI ad o_X o_L o_N o_T o_U (o_O.1, o_O.2.1, o_O.2.2.1, o_L.1, o_L.2.2.1, o_O.2.2.2.2.2) o_E o_Q o_V o_I) := hD
  cases hM
  exact rt_v hx hb hr hlk hP hD hS rfl dX8_keepName_16

set_option maxHeartbeats 4000000 in
set_option maxRecDepth 100000 in
theorem c_Model_isConstant (l : Launch) (D : va_G) (cI : ClassId) (sd : Nat → Nat) (ad : Nat → Nat) (o_C : S_MC) (o_X : S_MX) (o_N : S_MN) (o_T : S_MT) (o_U : S_MU) (o_O : S_MO) (o_E : S_ME) (o_Q : S_MQ) (o_V : S_MV) (o_I : S_MI) (o_L : S_ML) (res : Int32) (hM : f_Model_isConstant o_L = some res) : Ctr l D cI sd yX8_isConstant (wsM yX8_isConstant cX8_isConstant 1 (Option.some Jvm.ClassFile.FieldType.boolean)) { frames := 0, cells := 0, slots := 0, locals := 0 } [.ref (ad 100)] (wM_L cI ad o_X o_L o_N o_T o_U o_O o_E o_Q o_V o_I) (wM_L cI ad o_X o_L o_N o_T o_U o_O o_E o_Q o_V o_I) (some (.int res)) := by
  refine Ctr.of (cc := cX8_isConstant) (maxL := 1) (own := RX8) (by decide +kernel) rfl rfl (Nat.le_of_ble_eq_true rfl) ?_
  intro p e s m below meth c A ls hx hb hr hml hown hts hlk hK hE hA hP hD hS hl
  have hl : lv_has ls 1 [(0, .ref (ad 100))] := hl
  unfold f_Model_isConstant at hM
  refine lv_aload_n hx hb dX8_isConstant_0 rfl (lv_at hl 0 rfl) ?_
  refine va_get (D := D) (ci := 8) (v := .int o_L.2.1) (C := RX8) (T := TX8) (N := 48) hx hb hts layX8 hown hK hP 0 rfl rfl 7 (by decide) (hts _ (inA q985)) (fun _ h9 => h9) rfl dX8_isConstant_1 ?_
  refine lv_bipush (v := 64) hx hb dX8_isConstant_4 (by decide) ?_
  refine lv_icmp_eq (tgt := 36) hx hb dX8_isConstant_6 (by decide) (fun c1 => ?_) (fun c1 => ?_)
  · replace hM := if_t c1 hM
    refine lv_iconst (v := 1) hx hb dX8_isConstant_36 (by decide) ?_
    refine lv_goto (tgt := 41) hx hb dX8_isConstant_37 (by decide) ?_
    cases hM
    exact rt_z hx hb hr hlk (by decide) hP hD hS rfl dX8_isConstant_41
  · replace hM := if_f c1 hM
    refine lv_aload_n hx hb dX8_isConstant_9 rfl (lv_at hl 0 rfl) ?_
    refine va_get (D := D) (ci := 8) (v := .int o_L.2.1) (C := RX8) (T := TX8) (N := 48) hx hb hts layX8 hown hK hP 0 rfl rfl 7 (by decide) (hts _ (inA q985)) (fun _ h9 => h9) rfl dX8_isConstant_10 ?_
    refine lv_bipush (v := 81) hx hb dX8_isConstant_13 (by decide) ?_
    refine lv_icmp_eq (tgt := 36) hx hb dX8_isConstant_15 (by decide) (fun c2 => ?_) (fun c2 => ?_)
    · replace hM := if_t c2 hM
      refine lv_iconst (v := 1) hx hb dX8_isConstant_36 (by decide) ?_
      refine lv_goto (tgt := 41) hx hb dX8_isConstant_37 (by decide) ?_
      cases hM
      exact rt_z hx hb hr hlk (by decide) hP hD hS rfl dX8_isConstant_41
    · replace hM := if_f c2 hM
      refine lv_aload_n hx hb dX8_isConstant_18 rfl (lv_at hl 0 rfl) ?_
      refine va_get (D := D) (ci := 8) (v := .int o_L.2.1) (C := RX8) (T := TX8) (N := 48) hx hb hts layX8 hown hK hP 0 rfl rfl 7 (by decide) (hts _ (inA q985)) (fun _ h9 => h9) rfl dX8_isConstant_19 ?_
      refine lv_bipush (v := 35) hx hb dX8_isConstant_22 (by decide) ?_
      refine lv_icmp_eq (tgt := 36) hx hb dX8_isConstant_24 (by decide) (fun c3 => ?_) (fun c3 => ?_)
      · replace hM := if_t c3 hM
        refine lv_iconst (v := 1) hx hb dX8_isConstant_36 (by decide) ?_
        refine lv_goto (tgt := 41) hx hb dX8_isConstant_37 (by decide) ?_
        cases hM
        exact rt_z hx hb hr hlk (by decide) hP hD hS rfl dX8_isConstant_41
      · replace hM := if_f c3 hM
        refine lv_aload_n hx hb dX8_isConstant_27 rfl (lv_at hl 0 rfl) ?_
        refine va_get (D := D) (ci := 8) (v := .int o_L.2.1) (C := RX8) (T := TX8) (N := 48) hx hb hts layX8 hown hK hP 0 rfl rfl 7 (by decide) (hts _ (inA q985)) (fun _ h9 => h9) rfl dX8_isConstant_28 ?_
        refine lv_bipush (v := 36) hx hb dX8_isConstant_31 (by decide) ?_
        refine lv_icmp_ne (tgt := 40) hx hb dX8_isConstant_33 (by decide) (fun c4 => ?_) (fun c4 => ?_)
        · replace hM := if_f c4 hM
          refine lv_iconst (v := 0) hx hb dX8_isConstant_40 (by decide) ?_
          cases hM
          exact rt_z hx hb hr hlk (by decide) hP hD hS rfl dX8_isConstant_41
        · replace hM := if_t c4 hM
          refine lv_iconst (v := 1) hx hb dX8_isConstant_36 (by decide) ?_
          refine lv_goto (tgt := 41) hx hb dX8_isConstant_37 (by decide) ?_
          cases hM
          exact rt_z hx hb hr hlk (by decide) hP hD hS rfl dX8_isConstant_41

set_option maxHeartbeats 4000000 in
set_option maxRecDepth 100000 in
theorem c_Model_isOperand (l : Launch) (D : va_G) (cI : ClassId) (sd : Nat → Nat) (ad : Nat → Nat) (o_C : S_MC) (o_X : S_MX) (o_N : S_MN) (o_T : S_MT) (o_U : S_MU) (o_O : S_MO) (o_E : S_ME) (o_Q : S_MQ) (o_V : S_MV) (o_I : S_MI) (o_L : S_ML) (res : Int32) (hM : f_Model_isOperand o_L = some res) : Ctr l D cI sd yX8_isOperand (wsM yX8_isOperand cX8_isOperand 1 (Option.some Jvm.ClassFile.FieldType.boolean)) { frames := 1, cells := 0, slots := 0, locals := 20 } [.ref (ad 100)] (wM_L cI ad o_X o_L o_N o_T o_U o_O o_E o_Q o_V o_I) (wM_L cI ad o_X o_L o_N o_T o_U o_O o_E o_Q o_V o_I) (some (.int res)) := by
  refine Ctr.of (cc := cX8_isOperand) (maxL := 1) (own := RX8) (by decide +kernel) rfl rfl (Nat.le_of_ble_eq_true rfl) ?_
  intro p e s m below meth c A ls hx hb hr hml hown hts hlk hK hE hA hP hD hS hl
  have hl : lv_has ls 1 [(0, .ref (ad 100))] := hl
  unfold f_Model_isOperand at hM
  refine lv_aload_n hx hb dX8_isOperand_0 rfl (lv_at hl 0 rfl) ?_
  obtain ⟨r1, hcr1, hM⟩ := ob_use hM
  refine cl_V (As := []) (rest := []) (wM_L cI ad o_X o_L o_N o_T o_U o_O o_E o_Q o_V o_I) (.int r1 :: []) ⟨hx, hb, hml, hown, hts⟩ (c_Model_isConstant l D cI sd ad o_C o_X o_N o_T o_U o_O o_E o_Q o_V o_I o_L r1 hcr1) (cwV2 hts q1353 mvX8_isConstant rfl rfl ⟨(Nat.le_of_ble_eq_true rfl), (Nat.le_of_ble_eq_true rfl)⟩) hK hE hA hP hD hS 0 (T := TX8) (N := 48) (ci := 8) rfl rfl [0] rfl (by decide) rfl rfl rfl rfl rfl rfl hl.1 (Nat.le_of_ble_eq_true rfl) dX8_isOperand_1 ⟨Nat.zero_le _, Nat.zero_le _⟩ (fun H locs hP hD hS => ?_)
  refine lv_if_ne (tgt := 34) hx hb dX8_isOperand_4 (by decide) (fun c2 => ?_) (fun c2 => ?_)
  · replace hM := if_f c2 hM
    refine lv_iconst (v := 1) hx hb dX8_isOperand_34 (by decide) ?_
    refine lv_goto (tgt := 39) hx hb dX8_isOperand_35 (by decide) ?_
    cases hM
    exact rt_z hx hb hr hlk (by decide) hP hD hS rfl dX8_isOperand_39
  · replace hM := if_t c2 hM
    refine lv_aload_n hx hb dX8_isOperand_7 rfl (lv_at hl 0 rfl) ?_
    refine va_get (D := D) (ci := 8) (v := .int o_L.2.1) (C := RX8) (T := TX8) (N := 48) hx hb hts layX8 hown hK hP 0 rfl rfl 7 (by decide) (hts _ (inA q985)) (fun _ h9 => h9) rfl dX8_isOperand_8 ?_
    refine lv_bipush (v := 34) hx hb dX8_isOperand_11 (by decide) ?_
    refine lv_icmp_eq (tgt := 34) hx hb dX8_isOperand_13 (by decide) (fun c3 => ?_) (fun c3 => ?_)
    · replace hM := if_t c3 hM
      refine lv_iconst (v := 1) hx hb dX8_isOperand_34 (by decide) ?_
      refine lv_goto (tgt := 39) hx hb dX8_isOperand_35 (by decide) ?_
      cases hM
      exact rt_z hx hb hr hlk (by decide) hP hD hS rfl dX8_isOperand_39
    · replace hM := if_f c3 hM
      refine lv_aload_n hx hb dX8_isOperand_16 rfl (lv_at hl 0 rfl) ?_
      refine va_get (D := D) (ci := 8) (v := .int o_L.2.1) (C := RX8) (T := TX8) (N := 48) hx hb hts layX8 hown hK hP 0 rfl rfl 7 (by decide) (hts _ (inA q985)) (fun _ h9 => h9) rfl dX8_isOperand_17 ?_
      refine lv_bipush (v := 55) hx hb dX8_isOperand_20 (by decide) ?_
      refine lv_icmp_eq (tgt := 34) hx hb dX8_isOperand_22 (by decide) (fun c4 => ?_) (fun c4 => ?_)
      · replace hM := if_t c4 hM
        refine lv_iconst (v := 1) hx hb dX8_isOperand_34 (by decide) ?_
        refine lv_goto (tgt := 39) hx hb dX8_isOperand_35 (by decide) ?_
        cases hM
        exact rt_z hx hb hr hlk (by decide) hP hD hS rfl dX8_isOperand_39
      · replace hM := if_f c4 hM
        refine lv_aload_n hx hb dX8_isOperand_25 rfl (lv_at hl 0 rfl) ?_
        refine va_get (D := D) (ci := 8) (v := .int o_L.2.1) (C := RX8) (T := TX8) (N := 48) hx hb hts layX8 hown hK hP 0 rfl rfl 7 (by decide) (hts _ (inA q985)) (fun _ h9 => h9) rfl dX8_isOperand_26 ?_
        refine lv_bipush (v := 80) hx hb dX8_isOperand_29 (by decide) ?_
        refine lv_icmp_ne (tgt := 38) hx hb dX8_isOperand_31 (by decide) (fun c5 => ?_) (fun c5 => ?_)
        · replace hM := if_f c5 hM
          refine lv_iconst (v := 0) hx hb dX8_isOperand_38 (by decide) ?_
          cases hM
          exact rt_z hx hb hr hlk (by decide) hP hD hS rfl dX8_isOperand_39
        · replace hM := if_t c5 hM
          refine lv_iconst (v := 1) hx hb dX8_isOperand_34 (by decide) ?_
          refine lv_goto (tgt := 39) hx hb dX8_isOperand_35 (by decide) ?_
          cases hM
          exact rt_z hx hb hr hlk (by decide) hP hD hS rfl dX8_isOperand_39

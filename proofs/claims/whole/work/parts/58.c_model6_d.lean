set_option maxHeartbeats 4000000 in
set_option maxRecDepth 100000 in
theorem c_Model_itemFor (l : Launch) (D : va_G) (cI : ClassId) (sd : Nat → Nat) (ad : Nat → Nat) (o_C : S_MC) (o_X : S_MX) (o_L : S_ML) (o_N : S_MN) (o_U : S_MU) (o_O : S_MO) (o_E : S_ME) (o_Q : S_MQ) (o_V : S_MV) (o_T : S_MT) (o_I : S_MI) (a1 : Int32) (res : S_MI) (hM : f_Model_itemFor o_T o_I a1 = some res) : Ctr l D cI sd yX8_itemFor (wsM yX8_itemFor cX8_itemFor 5 (Option.none : Option Jvm.ClassFile.FieldType)) { frames := 1, cells := 0, slots := 0, locals := 22 } [.ref (ad 100), .int a1] (wM_TI cI ad o_X o_L o_N o_T o_U o_O o_E o_Q o_V o_I) (wM_TI cI ad o_X o_L o_N o_T o_U o_O o_E o_Q o_V res) none := by
  refine Ctr.of (cc := cX8_itemFor) (maxL := 5) (own := RX8) (by decide +kernel) rfl rfl (Nat.le_of_ble_eq_true rfl) ?_
  intro p e s m below meth c A ls hx hb hr hml hown hts hlk hK hE hA hP hD hS hl
  have hl : lv_has ls 5 [(0, .ref (ad 100)), (1, .int a1)] := hl
  unfold f_Model_itemFor at hM
  refine lv_aload_n hx hb dX8_itemFor_0 rfl (lv_at hl 0 rfl) ?_
  refine va_get (D := D) (ci := 8) (v := .ref (ad 112)) (C := RX8) (T := TX8) (N := 48) hx hb hts layX8 hown hK hP 0 rfl rfl 21 (by decide) (hts _ (inA q999)) (fun _ h9 => h9) rfl dX8_itemFor_1 ?_
  refine lv_iload_n hx hb dX8_itemFor_4 rfl (lv_at hl 1 rfl) ?_
  obtain ⟨b1, hM⟩ := gd_use hM
  refine va_iald hx hb hK hP 5 0 rfl rfl b1 dX8_itemFor_5 ?_
  refine lv_topi (fun x2 ex2 => ?_)
  replace hM := nm_use ex2 hM
  refine lv_istore_n (lv' := [(2, .int x2), (0, .ref (ad 100)), (1, .int a1)]) hx hb dX8_itemFor_6 rfl hl (by decide) rfl (fun ls hl => ?_)
  refine lv_aload_n hx hb dX8_itemFor_7 rfl (lv_at hl 1 rfl) ?_
  refine va_get (D := D) (ci := 8) (v := .ref (ad 114)) (C := RX8) (T := TX8) (N := 48) hx hb hts layX8 hown hK hP 0 rfl rfl 23 (by decide) (hts _ (inA q1001)) (fun _ h9 => h9) rfl dX8_itemFor_8 ?_
  refine lv_iload_n hx hb dX8_itemFor_11 rfl (lv_at hl 0 rfl) ?_
  obtain ⟨b3, hM⟩ := gd_use hM
  refine va_iald hx hb hK hP 7 0 rfl rfl b3 dX8_itemFor_12 ?_
  refine lv_topi (fun x4 ex4 => ?_)
  replace hM := nm_use ex4 hM
  refine lv_istore_n (lv' := [(3, .int x4), (2, .int x2), (0, .ref (ad 100)), (1, .int a1)]) hx hb dX8_itemFor_13 rfl hl (by decide) rfl (fun ls hl => ?_)
  refine lv_aload_n hx hb dX8_itemFor_14 rfl (lv_at hl 2 rfl) ?_
  refine va_get (D := D) (ci := 8) (v := .ref (ad 114)) (C := RX8) (T := TX8) (N := 48) hx hb hts layX8 hown hK hP 0 rfl rfl 23 (by decide) (hts _ (inA q1001)) (fun _ h9 => h9) rfl dX8_itemFor_15 ?_
  refine lv_iload_n hx hb dX8_itemFor_18 rfl (lv_at hl 0 rfl) ?_
  obtain ⟨b5, hM⟩ := gd_use hM
  refine va_iald hx hb hK hP 7 0 rfl rfl b5 dX8_itemFor_19 ?_
  refine lv_topi (fun x6 ex6 => ?_)
  replace hM := nm_use ex6 hM
  refine lv_istore (lv' := [(4, .int x6), (3, .int x4), (2, .int x2), (0, .ref (ad 100)), (1, .int a1)]) hx hb dX8_itemFor_20 hl (by decide) rfl (fun ls hl => ?_)
  refine lv_aload_n hx hb dX8_itemFor_22 rfl (lv_at hl 3 rfl) ?_
  refine lv_iconst (v := 0) hx hb dX8_itemFor_23 (by decide) ?_
  refine lv_bipush (v := 60) hx hb dX8_itemFor_24 (by decide) ?_
  obtain ⟨r7, hcr7, hM⟩ := ob_use hM
  refine cl_V (As := [.int 0, .int 60]) (rest := []) (wM_TI cI ad o_X o_L o_N o_T o_U o_O o_E o_Q o_V r7) [] ⟨hx, hb, hml, hown, hts⟩ (c_Model_item l D cI sd ad o_C o_X o_L o_N o_T o_U o_O o_E o_Q o_V o_I 0 60 r7 hcr7) (cwV2 hts q1512 mvX8_item rfl rfl ⟨(Nat.le_of_ble_eq_true rfl), (Nat.le_of_ble_eq_true rfl)⟩) hK hE hA hP hD hS 0 (T := TX8) (N := 48) (ci := 8) rfl rfl [0, 8, 9] rfl (by decide) rfl rfl rfl rfl rfl rfl hl.1 (Nat.le_of_ble_eq_true rfl) dX8_itemFor_26 ⟨Nat.zero_le _, Nat.zero_le _⟩ (fun H locs hP hD hS => ?_)
  refine lv_aload_n hx hb dX8_itemFor_29 rfl (lv_at hl 3 rfl) ?_
  refine lv_iconst (v := 0) hx hb dX8_itemFor_30 (by decide) ?_
  refine lv_bipush (v := 27) hx hb dX8_itemFor_31 (by decide) ?_
  obtain ⟨r8, hcr8, hM⟩ := ob_use hM
  refine cl_V (As := [.int 0, .int 27]) (rest := []) (wM_TI cI ad o_X o_L o_N o_T o_U o_O o_E o_Q o_V r8) [] ⟨hx, hb, hml, hown, hts⟩ (c_Model_item l D cI sd ad o_C o_X o_L o_N o_T o_U o_O o_E o_Q o_V r7 0 27 r8 hcr8) (cwV2 hts q1512 mvX8_item rfl rfl ⟨(Nat.le_of_ble_eq_true rfl), (Nat.le_of_ble_eq_true rfl)⟩) hK hE hA hP hD hS 0 (T := TX8) (N := 48) (ci := 8) rfl rfl [0, 8, 9] rfl (by decide) rfl rfl rfl rfl rfl rfl hl.1 (Nat.le_of_ble_eq_true rfl) dX8_itemFor_33 ⟨Nat.zero_le _, Nat.zero_le _⟩ (fun H locs hP hD hS => ?_)
  refine lv_aload_n hx hb dX8_itemFor_36 rfl (lv_at hl 3 rfl) ?_
  refine lv_iconst (v := 1) hx hb dX8_itemFor_37 (by decide) ?_
  refine lv_aload_n hx hb dX8_itemFor_38 rfl (lv_at hl 3 rfl) ?_
  refine va_get (D := D) (ci := 8) (v := .ref (ad 108)) (C := RX8) (T := TX8) (N := 48) hx hb hts layX8 hown hK hP 0 rfl rfl 17 (by decide) (hts _ (inA q995)) (fun _ h9 => h9) rfl dX8_itemFor_39 ?_
  refine lv_iload hx hb dX8_itemFor_42 (lv_at hl 0 rfl) ?_
  obtain ⟨b9, hM⟩ := gd_use hM
  refine va_iald hx hb hK hP 1 0 rfl rfl b9 dX8_itemFor_44 ?_
  refine lv_bipush (v := 11) hx hb dX8_itemFor_45 (by decide) ?_
  refine lv_icmp_ne (tgt := 55) hx hb dX8_itemFor_47 (by decide) (fun c10 => ?_) (fun c10 => ?_)
  · replace hM := if_f c10 hM
    refine lv_aload_n hx hb dX8_itemFor_55 rfl (lv_at hl 3 rfl) ?_
    refine va_get (D := D) (ci := 8) (v := .ref (ad 114)) (C := RX8) (T := TX8) (N := 48) hx hb hts layX8 hown hK hP 0 rfl rfl 23 (by decide) (hts _ (inA q1001)) (fun _ h9 => h9) rfl dX8_itemFor_56 ?_
    refine lv_iload hx hb dX8_itemFor_59 (lv_at hl 0 rfl) ?_
    obtain ⟨b11, hM⟩ := gd_use hM
    refine va_iald hx hb hK hP 7 0 rfl rfl b11 dX8_itemFor_61 ?_
    obtain ⟨r12, hcr12, hM⟩ := ob_use hM
    refine cl_V (As := [.int 1, .int (o_T.2.2.2.2.2.2.2.2 x6.toNatClampNeg)]) (rest := []) (wM_TI cI ad o_X o_L o_N o_T o_U o_O o_E o_Q o_V r12) [] ⟨hx, hb, hml, hown, hts⟩ (c_Model_item l D cI sd ad o_C o_X o_L o_N o_T o_U o_O o_E o_Q o_V r8 1 (o_T.2.2.2.2.2.2.2.2 x6.toNatClampNeg) r12 hcr12) (cwV2 hts q1512 mvX8_item rfl rfl ⟨(Nat.le_of_ble_eq_true rfl), (Nat.le_of_ble_eq_true rfl)⟩) hK hE hA hP hD hS 0 (T := TX8) (N := 48) (ci := 8) rfl rfl [0, 8, 9] rfl (by decide) rfl rfl rfl rfl rfl rfl hl.1 (Nat.le_of_ble_eq_true rfl) dX8_itemFor_62 ⟨Nat.zero_le _, Nat.zero_le _⟩ (fun H locs hP hD hS => ?_)
    refine lv_aload_n hx hb dX8_itemFor_65 rfl (lv_at hl 3 rfl) ?_
    refine lv_iconst (v := 0) hx hb dX8_itemFor_66 (by decide) ?_
    refine lv_bipush (v := 26) hx hb dX8_itemFor_67 (by decide) ?_
    obtain ⟨r13, hcr13, hM⟩ := ob_use hM
    refine cl_V (As := [.int 0, .int 26]) (rest := []) (wM_TI cI ad o_X o_L o_N o_T o_U o_O o_E o_Q o_V r13) [] ⟨hx, hb, hml, hown, hts⟩ (c_Model_item l D cI sd ad o_C o_X o_L o_N o_T o_U o_O o_E o_Q o_V r12 0 26 r13 hcr13) (cwV2 hts q1512 mvX8_item rfl rfl ⟨(Nat.le_of_ble_eq_true rfl), (Nat.le_of_ble_eq_true rfl)⟩) hK hE hA hP hD hS 0 (T := TX8) (N := 48) (ci := 8) rfl rfl [0, 8, 9] rfl (by decide) rfl rfl rfl rfl rfl rfl hl.1 (Nat.le_of_ble_eq_true rfl) dX8_itemFor_69 ⟨Nat.zero_le _, Nat.zero_le _⟩ (fun H locs hP hD hS => ?_)
    refine lv_aload_n hx hb dX8_itemFor_72 rfl (lv_at hl 3 rfl) ?_
    refine va_get (D := D) (ci := 8) (v := .ref (ad 108)) (C := RX8) (T := TX8) (N := 48) hx hb hts layX8 hown hK hP 0 rfl rfl 17 (by decide) (hts _ (inA q995)) (fun _ h9 => h9) rfl dX8_itemFor_73 ?_
    refine lv_iload hx hb dX8_itemFor_76 (lv_at hl 0 rfl) ?_
    obtain ⟨b14, hM⟩ := gd_use hM
    refine va_iald hx hb hK hP 1 0 rfl rfl b14 dX8_itemFor_78 ?_
    refine lv_bipush (v := 11) hx hb dX8_itemFor_79 (by decide) ?_
    refine lv_icmp_eq (tgt := 98) hx hb dX8_itemFor_81 (by decide) (fun c15 => ?_) (fun c15 => ?_)
    · replace hM := if_t c15 hM
      refine lv_aload_n hx hb dX8_itemFor_98 rfl (lv_at hl 3 rfl) ?_
      refine lv_iconst (v := 1) hx hb dX8_itemFor_99 (by decide) ?_
      refine lv_iload_n hx hb dX8_itemFor_100 rfl (lv_at hl 1 rfl) ?_
      obtain ⟨r16, hcr16, hM⟩ := ob_use hM
      refine cl_V (As := [.int 1, .int x4]) (rest := []) (wM_TI cI ad o_X o_L o_N o_T o_U o_O o_E o_Q o_V r16) [] ⟨hx, hb, hml, hown, hts⟩ (c_Model_item l D cI sd ad o_C o_X o_L o_N o_T o_U o_O o_E o_Q o_V r13 1 x4 r16 hcr16) (cwV2 hts q1512 mvX8_item rfl rfl ⟨(Nat.le_of_ble_eq_true rfl), (Nat.le_of_ble_eq_true rfl)⟩) hK hE hA hP hD hS 0 (T := TX8) (N := 48) (ci := 8) rfl rfl [0, 8, 9] rfl (by decide) rfl rfl rfl rfl rfl rfl hl.1 (Nat.le_of_ble_eq_true rfl) dX8_itemFor_101 ⟨Nat.zero_le _, Nat.zero_le _⟩ (fun H locs hP hD hS => ?_)
      refine lv_aload_n hx hb dX8_itemFor_104 rfl (lv_at hl 3 rfl) ?_
      refine lv_iconst (v := 0) hx hb dX8_itemFor_105 (by decide) ?_
      refine lv_bipush (v := 24) hx hb dX8_itemFor_106 (by decide) ?_
      obtain ⟨r17, hcr17, hM⟩ := ob_use hM
      refine cl_V (As := [.int 0, .int 24]) (rest := []) (wM_TI cI ad o_X o_L o_N o_T o_U o_O o_E o_Q o_V r17) [] ⟨hx, hb, hml, hown, hts⟩ (c_Model_item l D cI sd ad o_C o_X o_L o_N o_T o_U o_O o_E o_Q o_V r16 0 24 r17 hcr17) (cwV2 hts q1512 mvX8_item rfl rfl ⟨(Nat.le_of_ble_eq_true rfl), (Nat.le_of_ble_eq_true rfl)⟩) hK hE hA hP hD hS 0 (T := TX8) (N := 48) (ci := 8) rfl rfl [0, 8, 9] rfl (by decide) rfl rfl rfl rfl rfl rfl hl.1 (Nat.le_of_ble_eq_true rfl) dX8_itemFor_108 ⟨Nat.zero_le _, Nat.zero_le _⟩ (fun H locs hP hD hS => ?_)
      refine lv_aload_n hx hb dX8_itemFor_111 rfl (lv_at hl 3 rfl) ?_
      refine lv_iconst (v := 1) hx hb dX8_itemFor_112 (by decide) ?_
      refine lv_iload_n hx hb dX8_itemFor_113 rfl (lv_at hl 2 rfl) ?_
      obtain ⟨r18, hcr18, hM⟩ := ob_use hM
      refine cl_V (As := [.int 1, .int x2]) (rest := []) (wM_TI cI ad o_X o_L o_N o_T o_U o_O o_E o_Q o_V r18) [] ⟨hx, hb, hml, hown, hts⟩ (c_Model_item l D cI sd ad o_C o_X o_L o_N o_T o_U o_O o_E o_Q o_V r17 1 x2 r18 hcr18) (cwV2 hts q1512 mvX8_item rfl rfl ⟨(Nat.le_of_ble_eq_true rfl), (Nat.le_of_ble_eq_true rfl)⟩) hK hE hA hP hD hS 0 (T := TX8) (N := 48) (ci := 8) rfl rfl [0, 8, 9] rfl (by decide) rfl rfl rfl rfl rfl rfl hl.1 (Nat.le_of_ble_eq_true rfl) dX8_itemFor_114 ⟨Nat.zero_le _, Nat.zero_le _⟩ (fun H locs hP hD hS => ?_)
      refine lv_aload_n hx hb dX8_itemFor_117 rfl (lv_at hl 3 rfl) ?_
      refine lv_iconst (v := 0) hx hb dX8_itemFor_118 (by decide) ?_
      refine lv_bipush (v := 50) hx hb dX8_itemFor_119 (by decide) ?_
      obtain ⟨r19, hcr19, hM⟩ := ob_use hM
      refine cl_V (As := [.int 0, .int 50]) (rest := []) (wM_TI cI ad o_X o_L o_N o_T o_U o_O o_E o_Q o_V r19) [] ⟨hx, hb, hml, hown, hts⟩ (c_Model_item l D cI sd ad o_C o_X o_L o_N o_T o_U o_O o_E o_Q o_V r18 0 50 r19 hcr19) (cwV2 hts q1512 mvX8_item rfl rfl ⟨(Nat.le_of_ble_eq_true rfl), (Nat.le_of_ble_eq_true rfl)⟩) hK hE hA hP hD hS 0 (T := TX8) (N := 48) (ci := 8) rfl rfl [0, 8, 9] rfl (by decide) rfl rfl rfl rfl rfl rfl hl.1 (Nat.le_of_ble_eq_true rfl) dX8_itemFor_121 ⟨Nat.zero_le _, Nat.zero_le _⟩ (fun H locs hP hD hS => ?_)
      refine lv_aload_n hx hb dX8_itemFor_124 rfl (lv_at hl 3 rfl) ?_
      refine lv_bipush (v := 8) hx hb dX8_itemFor_125 (by decide) ?_
      refine lv_aload_n hx hb dX8_itemFor_127 rfl (lv_at hl 3 rfl) ?_
      refine va_get (D := D) (ci := 8) (v := .ref (ad 110)) (C := RX8) (T := TX8) (N := 48) hx hb hts layX8 hown hK hP 0 rfl rfl 19 (by decide) (hts _ (inA q997)) (fun _ h9 => h9) rfl dX8_itemFor_128 ?_
      refine lv_iload_n hx hb dX8_itemFor_131 rfl (lv_at hl 4 rfl) ?_
      obtain ⟨b20, hM⟩ := gd_use hM
      refine va_iald hx hb hK hP 3 0 rfl rfl b20 dX8_itemFor_132 ?_
      obtain ⟨r21, hcr21, hM⟩ := ob_use hM
      refine cl_V (As := [.int 8, .int (o_T.2.2.2.2.1 a1.toNatClampNeg)]) (rest := []) (wM_TI cI ad o_X o_L o_N o_T o_U o_O o_E o_Q o_V r21) [] ⟨hx, hb, hml, hown, hts⟩ (c_Model_item l D cI sd ad o_C o_X o_L o_N o_T o_U o_O o_E o_Q o_V r19 8 (o_T.2.2.2.2.1 a1.toNatClampNeg) r21 hcr21) (cwV2 hts q1512 mvX8_item rfl rfl ⟨(Nat.le_of_ble_eq_true rfl), (Nat.le_of_ble_eq_true rfl)⟩) hK hE hA hP hD hS 0 (T := TX8) (N := 48) (ci := 8) rfl rfl [0, 8, 9] rfl (by decide) rfl rfl rfl rfl rfl rfl hl.1 (Nat.le_of_ble_eq_true rfl) dX8_itemFor_133 ⟨Nat.zero_le _, Nat.zero_le _⟩ (fun H locs hP hD hS => ?_)
      refine lv_aload_n hx hb dX8_itemFor_136 rfl (lv_at hl 3 rfl) ?_
      refine lv_iconst (v := 0) hx hb dX8_itemFor_137 (by decide) ?_
      refine lv_bipush (v := 23) hx hb dX8_itemFor_138 (by decide) ?_
      obtain ⟨r22, hcr22, hM⟩ := ob_use hM
      refine cl_V (As := [.int 0, .int 23]) (rest := []) (wM_TI cI ad o_X o_L o_N o_T o_U o_O o_E o_Q o_V r22) [] ⟨hx, hb, hml, hown, hts⟩ (c_Model_item l D cI sd ad o_C o_X o_L o_N o_T o_U o_O o_E o_Q o_V r21 0 23 r22 hcr22) (cwV2 hts q1512 mvX8_item rfl rfl ⟨(Nat.le_of_ble_eq_true rfl), (Nat.le_of_ble_eq_true rfl)⟩) hK hE hA hP hD hS 0 (T := TX8) (N := 48) (ci := 8) rfl rfl [0, 8, 9] rfl (by decide) rfl rfl rfl rfl rfl rfl hl.1 (Nat.le_of_ble_eq_true rfl) dX8_itemFor_140 ⟨Nat.zero_le _, Nat.zero_le _⟩ (fun H locs hP hD hS => ?_)
      cases hM
      exact rt_v hx hb hr hlk hP hD hS rfl dX8_itemFor_143
    · replace hM := if_f c15 hM
      refine lv_aload_n hx hb dX8_itemFor_84 rfl (lv_at hl 3 rfl) ?_
      refine lv_iconst (v := 1) hx hb dX8_itemFor_85 (by decide) ?_
      refine lv_iload hx hb dX8_itemFor_86 (lv_at hl 0 rfl) ?_
      obtain ⟨r23, hcr23, hM⟩ := ob_use hM
      refine cl_V (As := [.int 1, .int x6]) (rest := []) (wM_TI cI ad o_X o_L o_N o_T o_U o_O o_E o_Q o_V r23) [] ⟨hx, hb, hml, hown, hts⟩ (c_Model_item l D cI sd ad o_C o_X o_L o_N o_T o_U o_O o_E o_Q o_V r13 1 x6 r23 hcr23) (cwV2 hts q1512 mvX8_item rfl rfl ⟨(Nat.le_of_ble_eq_true rfl), (Nat.le_of_ble_eq_true rfl)⟩) hK hE hA hP hD hS 0 (T := TX8) (N := 48) (ci := 8) rfl rfl [0, 8, 9] rfl (by decide) rfl rfl rfl rfl rfl rfl hl.1 (Nat.le_of_ble_eq_true rfl) dX8_itemFor_88 ⟨Nat.zero_le _, Nat.zero_le _⟩ (fun H locs hP hD hS => ?_)
      refine lv_aload_n hx hb dX8_itemFor_91 rfl (lv_at hl 3 rfl) ?_
      refine lv_iconst (v := 0) hx hb dX8_itemFor_92 (by decide) ?_
      refine lv_bipush (v := 25) hx hb dX8_itemFor_93 (by decide) ?_
      obtain ⟨r24, hcr24, hM⟩ := ob_use hM
      refine cl_V (As := [.int 0, .int 25]) (rest := []) (wM_TI cI ad o_X o_L o_N o_T o_U o_O o_E o_Q o_V r24) [] ⟨hx, hb, hml, hown, hts⟩ (c_Model_item l D cI sd ad o_C o_X o_L o_N o_T o_U o_O o_E o_Q o_V r23 0 25 r24 hcr24) (cwV2 hts q1512 mvX8_item rfl rfl ⟨(Nat.le_of_ble_eq_true rfl), (Nat.le_of_ble_eq_true rfl)⟩) hK hE hA hP hD hS 0 (T := TX8) (N := 48) (ci := 8) rfl rfl [0, 8, 9] rfl (by decide) rfl rfl rfl rfl rfl rfl hl.1 (Nat.le_of_ble_eq_true rfl) dX8_itemFor_95 ⟨Nat.zero_le _, Nat.zero_le _⟩ (fun H locs hP hD hS => ?_)
      refine lv_aload_n hx hb dX8_itemFor_98 rfl (lv_at hl 3 rfl) ?_
      refine lv_iconst (v := 1) hx hb dX8_itemFor_99 (by decide) ?_
      refine lv_iload_n hx hb dX8_itemFor_100 rfl (lv_at hl 1 rfl) ?_
      obtain ⟨r25, hcr25, hM⟩ := ob_use hM
      refine cl_V (As := [.int 1, .int x4]) (rest := []) (wM_TI cI ad o_X o_L o_N o_T o_U o_O o_E o_Q o_V r25) [] ⟨hx, hb, hml, hown, hts⟩ (c_Model_item l D cI sd ad o_C o_X o_L o_N o_T o_U o_O o_E o_Q o_V r24 1 x4 r25 hcr25) (cwV2 hts q1512 mvX8_item rfl rfl ⟨(Nat.le_of_ble_eq_true rfl), (Nat.le_of_ble_eq_true rfl)⟩) hK hE hA hP hD hS 0 (T := TX8) (N := 48) (ci := 8) rfl rfl [0, 8, 9] rfl (by decide) rfl rfl rfl rfl rfl rfl hl.1 (Nat.le_of_ble_eq_true rfl) dX8_itemFor_101 ⟨Nat.zero_le _, Nat.zero_le _⟩ (fun H locs hP hD hS => ?_)
      refine lv_aload_n hx hb dX8_itemFor_104 rfl (lv_at hl 3 rfl) ?_
      refine lv_iconst (v := 0) hx hb dX8_itemFor_105 (by decide) ?_
      refine lv_bipush (v := 24) hx hb dX8_itemFor_106 (by decide) ?_
      obtain ⟨r26, hcr26, hM⟩ := ob_use hM
      refine cl_V (As := [.int 0, .int 24]) (rest := []) (wM_TI cI ad o_X o_L o_N o_T o_U o_O o_E o_Q o_V r26) [] ⟨hx, hb, hml, hown, hts⟩ (c_Model_item l D cI sd ad o_C o_X o_L o_N o_T o_U o_O o_E o_Q o_V r25 0 24 r26 hcr26) (cwV2 hts q1512 mvX8_item rfl rfl ⟨(Nat.le_of_ble_eq_true rfl), (Nat.le_of_ble_eq_true rfl)⟩) hK hE hA hP hD hS 0 (T := TX8) (N := 48) (ci := 8) rfl rfl [0, 8, 9] rfl (by decide) rfl rfl rfl rfl rfl rfl hl.1 (Nat.le_of_ble_eq_true rfl) dX8_itemFor_108 ⟨Nat.zero_le _, Nat.zero_le _⟩ (fun H locs hP hD hS => ?_)
      refine lv_aload_n hx hb dX8_itemFor_111 rfl (lv_at hl 3 rfl) ?_
      refine lv_iconst (v := 1) hx hb dX8_itemFor_112 (by decide) ?_
      refine lv_iload_n hx hb dX8_itemFor_113 rfl (lv_at hl 2 rfl) ?_
      obtain ⟨r27, hcr27, hM⟩ := ob_use hM
      refine cl_V (As := [.int 1, .int x2]) (rest := []) (wM_TI cI ad o_X o_L o_N o_T o_U o_O o_E o_Q o_V r27) [] ⟨hx, hb, hml, hown, hts⟩ (c_Model_item l D cI sd ad o_C o_X o_L o_N o_T o_U o_O o_E o_Q o_V r26 1 x2 r27 hcr27) (cwV2 hts q1512 mvX8_item rfl rfl ⟨(Nat.le_of_ble_eq_true rfl), (Nat.le_of_ble_eq_true rfl)⟩) hK hE hA hP hD hS 0 (T := TX8) (N := 48) (ci := 8) rfl rfl [0, 8, 9] rfl (by decide) rfl rfl rfl rfl rfl rfl hl.1 (Nat.le_of_ble_eq_true rfl) dX8_itemFor_114 ⟨Nat.zero_le _, Nat.zero_le _⟩ (fun H locs hP hD hS => ?_)
      refine lv_aload_n hx hb dX8_itemFor_117 rfl (lv_at hl 3 rfl) ?_
      refine lv_iconst (v := 0) hx hb dX8_itemFor_118 (by decide) ?_
      refine lv_bipush (v := 50) hx hb dX8_itemFor_119 (by decide) ?_
      obtain ⟨r28, hcr28, hM⟩ := ob_use hM
      refine cl_V (As := [.int 0, .int 50]) (rest := []) (wM_TI cI ad o_X o_L o_N o_T o_U o_O o_E o_Q o_V r28) [] ⟨hx, hb, hml, hown, hts⟩ (c_Model_item l D cI sd ad o_C o_X o_L o_N o_T o_U o_O o_E o_Q o_V r27 0 50 r28 hcr28) (cwV2 hts q1512 mvX8_item rfl rfl ⟨(Nat.le_of_ble_eq_true rfl), (Nat.le_of_ble_eq_true rfl)⟩) hK hE hA hP hD hS 0 (T := TX8) (N := 48) (ci := 8) rfl rfl [0, 8, 9] rfl (by decide) rfl rfl rfl rfl rfl rfl hl.1 (Nat.le_of_ble_eq_true rfl) dX8_itemFor_121 ⟨Nat.zero_le _, Nat.zero_le _⟩ (fun H locs hP hD hS => ?_)
      refine lv_aload_n hx hb dX8_itemFor_124 rfl (lv_at hl 3 rfl) ?_
      refine lv_bipush (v := 8) hx hb dX8_itemFor_125 (by decide) ?_
      refine lv_aload_n hx hb dX8_itemFor_127 rfl (lv_at hl 3 rfl) ?_
      refine va_get (D := D) (ci := 8) (v := .ref (ad 110)) (C := RX8) (T := TX8) (N := 48) hx hb hts layX8 hown hK hP 0 rfl rfl 19 (by decide) (hts _ (inA q997)) (fun _ h9 => h9) rfl dX8_itemFor_128 ?_
      refine lv_iload_n hx hb dX8_itemFor_131 rfl (lv_at hl 4 rfl) ?_
      obtain ⟨b29, hM⟩ := gd_use hM
      refine va_iald hx hb hK hP 3 0 rfl rfl b29 dX8_itemFor_132 ?_
      obtain ⟨r30, hcr30, hM⟩ := ob_use hM
      refine cl_V (As := [.int 8, .int (o_T.2.2.2.2.1 a1.toNatClampNeg)]) (rest := []) (wM_TI cI ad o_X o_L o_N o_T o_U o_O o_E o_Q o_V r30) [] ⟨hx, hb, hml, hown, hts⟩ (c_Model_item l D cI sd ad o_C o_X o_L o_N o_T o_U o_O o_E o_Q o_V r28 8 (o_T.2.2.2.2.1 a1.toNatClampNeg) r30 hcr30) (cwV2 hts q1512 mvX8_item rfl rfl ⟨(Nat.le_of_ble_eq_true rfl), (Nat.le_of_ble_eq_true rfl)⟩) hK hE hA hP hD hS 0 (T := TX8) (N := 48) (ci := 8) rfl rfl [0, 8, 9] rfl (by decide) rfl rfl rfl rfl rfl rfl hl.1 (Nat.le_of_ble_eq_true rfl) dX8_itemFor_133 ⟨Nat.zero_le _, Nat.zero_le _⟩ (fun H locs hP hD hS => ?_)
      refine lv_aload_n hx hb dX8_itemFor_136 rfl (lv_at hl 3 rfl) ?_
      refine lv_iconst (v := 0) hx hb dX8_itemFor_137 (by decide) ?_
      refine lv_bipush (v := 23) hx hb dX8_itemFor_138 (by decide) ?_
      obtain ⟨r31, hcr31, hM⟩ := ob_use hM
      refine cl_V (As := [.int 0, .int 23]) (rest := []) (wM_TI cI ad o_X o_L o_N o_T o_U o_O o_E o_Q o_V r31) [] ⟨hx, hb, hml, hown, hts⟩ (c_Model_item l D cI sd ad o_C o_X o_L o_N o_T o_U o_O o_E o_Q o_V r30 0 23 r31 hcr31) (cwV2 hts q1512 mvX8_item rfl rfl ⟨(Nat.le_of_ble_eq_true rfl), (Nat.le_of_ble_eq_true rfl)⟩) hK hE hA hP hD hS 0 (T := TX8) (N := 48) (ci := 8) rfl rfl [0, 8, 9] rfl (by decide) rfl rfl rfl rfl rfl rfl hl.1 (Nat.le_of_ble_eq_true rfl) dX8_itemFor_140 ⟨Nat.zero_le _, Nat.zero_le _⟩ (fun H locs hP hD hS => ?_)
      cases hM
      exact rt_v hx hb hr hlk hP hD hS rfl dX8_itemFor_143
  · replace hM := if_t c10 hM
    refine lv_iload hx hb dX8_itemFor_50 (lv_at hl 0 rfl) ?_
    refine lv_goto (tgt := 62) hx hb dX8_itemFor_52 (by decide) ?_
    obtain ⟨r32, hcr32, hM⟩ := ob_use hM
    refine cl_V (As := [.int 1, .int x6]) (rest := []) (wM_TI cI ad o_X o_L o_N o_T o_U o_O o_E o_Q o_V r32) [] ⟨hx, hb, hml, hown, hts⟩ (c_Model_item l D cI sd ad o_C o_X o_L o_N o_T o_U o_O o_E o_Q o_V r8 1 x6 r32 hcr32) (cwV2 hts q1512 mvX8_item rfl rfl ⟨(Nat.le_of_ble_eq_true rfl), (Nat.le_of_ble_eq_true rfl)⟩) hK hE hA hP hD hS 0 (T := TX8) (N := 48) (ci := 8) rfl rfl [0, 8, 9] rfl (by decide) rfl rfl rfl rfl rfl rfl hl.1 (Nat.le_of_ble_eq_true rfl) dX8_itemFor_62 ⟨Nat.zero_le _, Nat.zero_le _⟩ (fun H locs hP hD hS => ?_)
    refine lv_aload_n hx hb dX8_itemFor_65 rfl (lv_at hl 3 rfl) ?_
    refine lv_iconst (v := 0) hx hb dX8_itemFor_66 (by decide) ?_
    refine lv_bipush (v := 26) hx hb dX8_itemFor_67 (by decide) ?_
    obtain ⟨r33, hcr33, hM⟩ := ob_use hM
    refine cl_V (As := [.int 0, .int 26]) (rest := []) (wM_TI cI ad o_X o_L o_N o_T o_U o_O o_E o_Q o_V r33) [] ⟨hx, hb, hml, hown, hts⟩ (c_Model_item l D cI sd ad o_C o_X o_L o_N o_T o_U o_O o_E o_Q o_V r32 0 26 r33 hcr33) (cwV2 hts q1512 mvX8_item rfl rfl ⟨(Nat.le_of_ble_eq_true rfl), (Nat.le_of_ble_eq_true rfl)⟩) hK hE hA hP hD hS 0 (T := TX8) (N := 48) (ci := 8) rfl rfl [0, 8, 9] rfl (by decide) rfl rfl rfl rfl rfl rfl hl.1 (Nat.le_of_ble_eq_true rfl) dX8_itemFor_69 ⟨Nat.zero_le _, Nat.zero_le _⟩ (fun H locs hP hD hS => ?_)
    refine lv_aload_n hx hb dX8_itemFor_72 rfl (lv_at hl 3 rfl) ?_
    refine va_get (D := D) (ci := 8) (v := .ref (ad 108)) (C := RX8) (T := TX8) (N := 48) hx hb hts layX8 hown hK hP 0 rfl rfl 17 (by decide) (hts _ (inA q995)) (fun _ h9 => h9) rfl dX8_itemFor_73 ?_
    refine lv_iload hx hb dX8_itemFor_76 (lv_at hl 0 rfl) ?_
    obtain ⟨b34, hM⟩ := gd_use hM
    refine va_iald hx hb hK hP 1 0 rfl rfl b34 dX8_itemFor_78 ?_
    refine lv_bipush (v := 11) hx hb dX8_itemFor_79 (by decide) ?_
    refine lv_icmp_eq (tgt := 98) hx hb dX8_itemFor_81 (by decide) (fun c35 => ?_) (fun c35 => ?_)
    · replace hM := if_t c35 hM
      refine lv_aload_n hx hb dX8_itemFor_98 rfl (lv_at hl 3 rfl) ?_
      refine lv_iconst (v := 1) hx hb dX8_itemFor_99 (by decide) ?_
      refine lv_iload_n hx hb dX8_itemFor_100 rfl (lv_at hl 1 rfl) ?_
      obtain ⟨r36, hcr36, hM⟩ := ob_use hM
      refine cl_V (As := [.int 1, .int x4]) (rest := []) (wM_TI cI ad o_X o_L o_N o_T o_U o_O o_E o_Q o_V r36) [] ⟨hx, hb, hml, hown, hts⟩ (c_Model_item l D cI sd ad o_C o_X o_L o_N o_T o_U o_O o_E o_Q o_V r33 1 x4 r36 hcr36) (cwV2 hts q1512 mvX8_item rfl rfl ⟨(Nat.le_of_ble_eq_true rfl), (Nat.le_of_ble_eq_true rfl)⟩) hK hE hA hP hD hS 0 (T := TX8) (N := 48) (ci := 8) rfl rfl [0, 8, 9] rfl (by decide) rfl rfl rfl rfl rfl rfl hl.1 (Nat.le_of_ble_eq_true rfl) dX8_itemFor_101 ⟨Nat.zero_le _, Nat.zero_le _⟩ (fun H locs hP hD hS => ?_)
      refine lv_aload_n hx hb dX8_itemFor_104 rfl (lv_at hl 3 rfl) ?_
      refine lv_iconst (v := 0) hx hb dX8_itemFor_105 (by decide) ?_
      refine lv_bipush (v := 24) hx hb dX8_itemFor_106 (by decide) ?_
      obtain ⟨r37, hcr37, hM⟩ := ob_use hM
      refine cl_V (As := [.int 0, .int 24]) (rest := []) (wM_TI cI ad o_X o_L o_N o_T o_U o_O o_E o_Q o_V r37) [] ⟨hx, hb, hml, hown, hts⟩ (c_Model_item l D cI sd ad o_C o_X o_L o_N o_T o_U o_O o_E o_Q o_V r36 0 24 r37 hcr37) (cwV2 hts q1512 mvX8_item rfl rfl ⟨(Nat.le_of_ble_eq_true rfl), (Nat.le_of_ble_eq_true rfl)⟩) hK hE hA hP hD hS 0 (T := TX8) (N := 48) (ci := 8) rfl rfl [0, 8, 9] rfl (by decide) rfl rfl rfl rfl rfl rfl hl.1 (Nat.le_of_ble_eq_true rfl) dX8_itemFor_108 ⟨Nat.zero_le _, Nat.zero_le _⟩ (fun H locs hP hD hS => ?_)
      refine lv_aload_n hx hb dX8_itemFor_111 rfl (lv_at hl 3 rfl) ?_
      refine lv_iconst (v := 1) hx hb dX8_itemFor_112 (by decide) ?_
      refine lv_iload_n hx hb dX8_itemFor_113 rfl (lv_at hl 2 rfl) ?_
      obtain ⟨r38, hcr38, hM⟩ := ob_use hM
      refine cl_V (As := [.int 1, .int x2]) (rest := []) (wM_TI cI ad o_X o_L o_N o_T o_U o_O o_E o_Q o_V r38) [] ⟨hx, hb, hml, hown, hts⟩ (c_Model_item l D cI sd ad o_C o_X o_L o_N o_T o_U o_O o_E o_Q o_V r37 1 x2 r38 hcr38) (cwV2 hts q1512 mvX8_item rfl rfl ⟨(Nat.le_of_ble_eq_true rfl), (Nat.le_of_ble_eq_true rfl)⟩) hK hE hA hP hD hS 0 (T := TX8) (N := 48) (ci := 8) rfl rfl [0, 8, 9] rfl (by decide) rfl rfl rfl rfl rfl rfl hl.1 (Nat.le_of_ble_eq_true rfl) dX8_itemFor_114 ⟨Nat.zero_le _, Nat.zero_le _⟩ (fun H locs hP hD hS => ?_)
      refine lv_aload_n hx hb dX8_itemFor_117 rfl (lv_at hl 3 rfl) ?_
      refine lv_iconst (v := 0) hx hb dX8_itemFor_118 (by decide) ?_
      refine lv_bipush (v := 50) hx hb dX8_itemFor_119 (by decide) ?_
      obtain ⟨r39, hcr39, hM⟩ := ob_use hM
      refine cl_V (As := [.int 0, .int 50]) (rest := []) (wM_TI cI ad o_X o_L o_N o_T o_U o_O o_E o_Q o_V r39) [] ⟨hx, hb, hml, hown, hts⟩ (c_Model_item l D cI sd ad o_C o_X o_L o_N o_T o_U o_O o_E o_Q o_V r38 0 50 r39 hcr39) (cwV2 hts q1512 mvX8_item rfl rfl ⟨(Nat.le_of_ble_eq_true rfl), (Nat.le_of_ble_eq_true rfl)⟩) hK hE hA hP hD hS 0 (T := TX8) (N := 48) (ci := 8) rfl rfl [0, 8, 9] rfl (by decide) rfl rfl rfl rfl rfl rfl hl.1 (Nat.le_of_ble_eq_true rfl) dX8_itemFor_121 ⟨Nat.zero_le _, Nat.zero_le _⟩ (fun H locs hP hD hS => ?_)
      refine lv_aload_n hx hb dX8_itemFor_124 rfl (lv_at hl 3 rfl) ?_
      refine lv_bipush (v := 8) hx hb dX8_itemFor_125 (by decide) ?_
      refine lv_aload_n hx hb dX8_itemFor_127 rfl (lv_at hl 3 rfl) ?_
      refine va_get (D := D) (ci := 8) (v := .ref (ad 110)) (C := RX8) (T := TX8) (N := 48) hx hb hts layX8 hown hK hP 0 rfl rfl 19 (by decide) (hts _ (inA q997)) (fun _ h9 => h9) rfl dX8_itemFor_128 ?_
      refine lv_iload_n hx hb dX8_itemFor_131 rfl (lv_at hl 4 rfl) ?_
      obtain ⟨b40, hM⟩ := gd_use hM
      refine va_iald hx hb hK hP 3 0 rfl rfl b40 dX8_itemFor_132 ?_
      obtain ⟨r41, hcr41, hM⟩ := ob_use hM
      refine cl_V (As := [.int 8, .int (o_T.2.2.2.2.1 a1.toNatClampNeg)]) (rest := []) (wM_TI cI ad o_X o_L o_N o_T o_U o_O o_E o_Q o_V r41) [] ⟨hx, hb, hml, hown, hts⟩ (c_Model_item l D cI sd ad o_C o_X o_L o_N o_T o_U o_O o_E o_Q o_V r39 8 (o_T.2.2.2.2.1 a1.toNatClampNeg) r41 hcr41) (cwV2 hts q1512 mvX8_item rfl rfl ⟨(Nat.le_of_ble_eq_true rfl), (Nat.le_of_ble_eq_true rfl)⟩) hK hE hA hP hD hS 0 (T := TX8) (N := 48) (ci := 8) rfl rfl [0, 8, 9] rfl (by decide) rfl rfl rfl rfl rfl rfl hl.1 (Nat.le_of_ble_eq_true rfl) dX8_itemFor_133 ⟨Nat.zero_le _, Nat.zero_le _⟩ (fun H locs hP hD hS => ?_)
      refine lv_aload_n hx hb dX8_itemFor_136 rfl (lv_at hl 3 rfl) ?_
      refine lv_iconst (v := 0) hx hb dX8_itemFor_137 (by decide) ?_
      refine lv_bipush (v := 23) hx hb dX8_itemFor_138 (by decide) ?_
      obtain ⟨r42, hcr42, hM⟩ := ob_use hM
      refine cl_V (As := [.int 0, .int 23]) (rest := []) (wM_TI cI ad o_X o_L o_N o_T o_U o_O o_E o_Q o_V r42) [] ⟨hx, hb, hml, hown, hts⟩ (c_Model_item l D cI sd ad o_C o_X o_L o_N o_T o_U o_O o_E o_Q o_V r41 0 23 r42 hcr42) (cwV2 hts q1512 mvX8_item rfl rfl ⟨(Nat.le_of_ble_eq_true rfl), (Nat.le_of_ble_eq_true rfl)⟩) hK hE hA hP hD hS 0 (T := TX8) (N := 48) (ci := 8) rfl rfl [0, 8, 9] rfl (by decide) rfl rfl rfl rfl rfl rfl hl.1 (Nat.le_of_ble_eq_true rfl) dX8_itemFor_140 ⟨Nat.zero_le _, Nat.zero_le _⟩ (fun H locs hP hD hS => ?_)
      cases hM
      exact rt_v hx hb hr hlk hP hD hS rfl dX8_itemFor_143
    · replace hM := if_f c35 hM
      refine lv_aload_n hx hb dX8_itemFor_84 rfl (lv_at hl 3 rfl) ?_
      refine lv_iconst (v := 1) hx hb dX8_itemFor_85 (by decide) ?_
      refine lv_iload hx hb dX8_itemFor_86 (lv_at hl 0 rfl) ?_
      obtain ⟨r43, hcr43, hM⟩ := ob_use hM
      refine cl_V (As := [.int 1, .int x6]) (rest := []) (wM_TI cI ad o_X o_L o_N o_T o_U o_O o_E o_Q o_V r43) [] ⟨hx, hb, hml, hown, hts⟩ (c_Model_item l D cI sd ad o_C o_X o_L o_N o_T o_U o_O o_E o_Q o_V r33 1 x6 r43 hcr43) (cwV2 hts q1512 mvX8_item rfl rfl ⟨(Nat.le_of_ble_eq_true rfl), (Nat.le_of_ble_eq_true rfl)⟩) hK hE hA hP hD hS 0 (T := TX8) (N := 48) (ci := 8) rfl rfl [0, 8, 9] rfl (by decide) rfl rfl rfl rfl rfl rfl hl.1 (Nat.le_of_ble_eq_true rfl) dX8_itemFor_88 ⟨Nat.zero_le _, Nat.zero_le _⟩ (fun H locs hP hD hS => ?_)
      refine lv_aload_n hx hb dX8_itemFor_91 rfl (lv_at hl 3 rfl) ?_
      refine lv_iconst (v := 0) hx hb dX8_itemFor_92 (by decide) ?_
      refine lv_bipush (v := 25) hx hb dX8_itemFor_93 (by decide) ?_
      obtain ⟨r44, hcr44, hM⟩ := ob_use hM
      refine cl_V (As := [.int 0, .int 25]) (rest := []) (wM_TI cI ad o_X o_L o_N o_T o_U o_O o_E o_Q o_V r44) [] ⟨hx, hb, hml, hown, hts⟩ (c_Model_item l D cI sd ad o_C o_X o_L o_N o_T o_U o_O o_E o_Q o_V r43 0 25 r44 hcr44) (cwV2 hts q1512 mvX8_item rfl rfl ⟨(Nat.le_of_ble_eq_true rfl), (Nat.le_of_ble_eq_true rfl)⟩) hK hE hA hP hD hS 0 (T := TX8) (N := 48) (ci := 8) rfl rfl [0, 8, 9] rfl (by decide) rfl rfl rfl rfl rfl rfl hl.1 (Nat.le_of_ble_eq_true rfl) dX8_itemFor_95 ⟨Nat.zero_le _, Nat.zero_le _⟩ (fun H locs hP hD hS => ?_)
      refine lv_aload_n hx hb dX8_itemFor_98 rfl (lv_at hl 3 rfl) ?_
      refine lv_iconst (v := 1) hx hb dX8_itemFor_99 (by decide) ?_
      refine lv_iload_n hx hb dX8_itemFor_100 rfl (lv_at hl 1 rfl) ?_
      obtain ⟨r45, hcr45, hM⟩ := ob_use hM
      refine cl_V (As := [.int 1, .int x4]) (rest := []) (wM_TI cI ad o_X o_L o_N o_T o_U o_O o_E o_Q o_V r45) [] ⟨hx, hb, hml, hown, hts⟩ (c_Model_item l D cI sd ad o_C o_X o_L o_N o_T o_U o_O o_E o_Q o_V r44 1 x4 r45 hcr45) (cwV2 hts q1512 mvX8_item rfl rfl ⟨(Nat.le_of_ble_eq_true rfl), (Nat.le_of_ble_eq_true rfl)⟩) hK hE hA hP hD hS 0 (T := TX8) (N := 48) (ci := 8) rfl rfl [0, 8, 9] rfl (by decide) rfl rfl rfl rfl rfl rfl hl.1 (Nat.le_of_ble_eq_true rfl) dX8_itemFor_101 ⟨Nat.zero_le _, Nat.zero_le _⟩ (fun H locs hP hD hS => ?_)
      refine lv_aload_n hx hb dX8_itemFor_104 rfl (lv_at hl 3 rfl) ?_
      refine lv_iconst (v := 0) hx hb dX8_itemFor_105 (by decide) ?_
      refine lv_bipush (v := 24) hx hb dX8_itemFor_106 (by decide) ?_
      obtain ⟨r46, hcr46, hM⟩ := ob_use hM
      refine cl_V (As := [.int 0, .int 24]) (rest := []) (wM_TI cI ad o_X o_L o_N o_T o_U o_O o_E o_Q o_V r46) [] ⟨hx, hb, hml, hown, hts⟩ (c_Model_item l D cI sd ad o_C o_X o_L o_N o_T o_U o_O o_E o_Q o_V r45 0 24 r46 hcr46) (cwV2 hts q1512 mvX8_item rfl rfl ⟨(Nat.le_of_ble_eq_true rfl), (Nat.le_of_ble_eq_true rfl)⟩) hK hE hA hP hD hS 0 (T := TX8) (N := 48) (ci := 8) rfl rfl [0, 8, 9] rfl (by decide) rfl rfl rfl rfl rfl rfl hl.1 (Nat.le_of_ble_eq_true rfl) dX8_itemFor_108 ⟨Nat.zero_le _, Nat.zero_le _⟩ (fun H locs hP hD hS => ?_)
      refine lv_aload_n hx hb dX8_itemFor_111 rfl (lv_at hl 3 rfl) ?_
      refine lv_iconst (v := 1) hx hb dX8_itemFor_112 (by decide) ?_
      refine lv_iload_n hx hb dX8_itemFor_113 rfl (lv_at hl 2 rfl) ?_
      obtain ⟨r47, hcr47, hM⟩ := ob_use hM
      refine cl_V (As := [.int 1, .int x2]) (rest := []) (wM_TI cI ad o_X o_L o_N o_T o_U o_O o_E o_Q o_V r47) [] ⟨hx, hb, hml, hown, hts⟩ (c_Model_item l D cI sd ad o_C o_X o_L o_N o_T o_U o_O o_E o_Q o_V r46 1 x2 r47 hcr47) (cwV2 hts q1512 mvX8_item rfl rfl ⟨(Nat.le_of_ble_eq_true rfl), (Nat.le_of_ble_eq_true rfl)⟩) hK hE hA hP hD hS 0 (T := TX8) (N := 48) (ci := 8) rfl rfl [0, 8, 9] rfl (by decide) rfl rfl rfl rfl rfl rfl hl.1 (Nat.le_of_ble_eq_true rfl) dX8_itemFor_114 ⟨Nat.zero_le _, Nat.zero_le _⟩ (fun H locs hP hD hS => ?_)
      refine lv_aload_n hx hb dX8_itemFor_117 rfl (lv_at hl 3 rfl) ?_
      refine lv_iconst (v := 0) hx hb dX8_itemFor_118 (by decide) ?_
      refine lv_bipush (v := 50) hx hb dX8_itemFor_119 (by decide) ?_
      obtain ⟨r48, hcr48, hM⟩ := ob_use hM
      refine cl_V (As := [.int 0, .int 50]) (rest := []) (wM_TI cI ad o_X o_L o_N o_T o_U o_O o_E o_Q o_V r48) [] ⟨hx, hb, hml, hown, hts⟩ (c_Model_item l D cI sd ad o_C o_X o_L o_N o_T o_U o_O o_E o_Q o_V r47 0 50 r48 hcr48) (cwV2 hts q1512 mvX8_item rfl rfl ⟨(Nat.le_of_ble_eq_true rfl), (Nat.le_of_ble_eq_true rfl)⟩) hK hE hA hP hD hS 0 (T := TX8) (N := 48) (ci := 8) rfl rfl [0, 8, 9] rfl (by decide) rfl rfl rfl rfl rfl rfl hl.1 (Nat.le_of_ble_eq_true rfl) dX8_itemFor_121 ⟨Nat.zero_le _, Nat.zero_le _⟩ (fun H locs hP hD hS => ?_)
      refine lv_aload_n hx hb dX8_itemFor_124 rfl (lv_at hl 3 rfl) ?_
      refine lv_bipush (v := 8) hx hb dX8_itemFor_125 (by decide) ?_
      refine lv_aload_n hx hb dX8_itemFor_127 rfl (lv_at hl 3 rfl) ?_
      refine va_get (D := D) (ci := 8) (v := .ref (ad 110)) (C := RX8) (T := TX8) (N := 48) hx hb hts layX8 hown hK hP 0 rfl rfl 19 (by decide) (hts _ (inA q997)) (fun _ h9 => h9) rfl dX8_itemFor_128 ?_
      refine lv_iload_n hx hb dX8_itemFor_131 rfl (lv_at hl 4 rfl) ?_
      obtain ⟨b49, hM⟩ := gd_use hM
      refine va_iald hx hb hK hP 3 0 rfl rfl b49 dX8_itemFor_132 ?_
      obtain ⟨r50, hcr50, hM⟩ := ob_use hM
      refine cl_V (As := [.int 8, .int (o_T.2.2.2.2.1 a1.toNatClampNeg)]) (rest := []) (wM_TI cI ad o_X o_L o_N o_T o_U o_O o_E o_Q o_V r50) [] ⟨hx, hb, hml, hown, hts⟩ (c_Model_item l D cI sd ad o_C o_X o_L o_N o_T o_U o_O o_E o_Q o_V r48 8 (o_T.2.2.2.2.1 a1.toNatClampNeg) r50 hcr50) (cwV2 hts q1512 mvX8_item rfl rfl ⟨(Nat.le_of_ble_eq_true rfl), (Nat.le_of_ble_eq_true rfl)⟩) hK hE hA hP hD hS 0 (T := TX8) (N := 48) (ci := 8) rfl rfl [0, 8, 9] rfl (by decide) rfl rfl rfl rfl rfl rfl hl.1 (Nat.le_of_ble_eq_true rfl) dX8_itemFor_133 ⟨Nat.zero_le _, Nat.zero_le _⟩ (fun H locs hP hD hS => ?_)
      refine lv_aload_n hx hb dX8_itemFor_136 rfl (lv_at hl 3 rfl) ?_
      refine lv_iconst (v := 0) hx hb dX8_itemFor_137 (by decide) ?_
      refine lv_bipush (v := 23) hx hb dX8_itemFor_138 (by decide) ?_
      obtain ⟨r51, hcr51, hM⟩ := ob_use hM
      refine cl_V (As := [.int 0, .int 23]) (rest := []) (wM_TI cI ad o_X o_L o_N o_T o_U o_O o_E o_Q o_V r51) [] ⟨hx, hb, hml, hown, hts⟩ (c_Model_item l D cI sd ad o_C o_X o_L o_N o_T o_U o_O o_E o_Q o_V r50 0 23 r51 hcr51) (cwV2 hts q1512 mvX8_item rfl rfl ⟨(Nat.le_of_ble_eq_true rfl), (Nat.le_of_ble_eq_true rfl)⟩) hK hE hA hP hD hS 0 (T := TX8) (N := 48) (ci := 8) rfl rfl [0, 8, 9] rfl (by decide) rfl rfl rfl rfl rfl rfl hl.1 (Nat.le_of_ble_eq_true rfl) dX8_itemFor_140 ⟨Nat.zero_le _, Nat.zero_le _⟩ (fun H locs hP hD hS => ?_)
      cases hM
      exact rt_v hx hb hr hlk hP hD hS rfl dX8_itemFor_143

set_option maxHeartbeats 4000000 in
set_option maxRecDepth 100000 in
theorem c_Model_itemArray (l : Launch) (D : va_G) (cI : ClassId) (sd : Nat → Nat) (ad : Nat → Nat) (o_C : S_MC) (o_X : S_MX) (o_L : S_ML) (o_N : S_MN) (o_U : S_MU) (o_O : S_MO) (o_E : S_ME) (o_Q : S_MQ) (o_V : S_MV) (o_T : S_MT) (o_I : S_MI) (a1 : Int32) (res : S_MI) (hM : f_Model_itemArray o_T o_I a1 = some res) : Ctr l D cI sd yX8_itemArray (wsM yX8_itemArray cX8_itemArray 2 (Option.none : Option Jvm.ClassFile.FieldType)) { frames := 1, cells := 0, slots := 0, locals := 22 } [.ref (ad 100), .int a1] (wM_TI cI ad o_X o_L o_N o_T o_U o_O o_E o_Q o_V o_I) (wM_TI cI ad o_X o_L o_N o_T o_U o_O o_E o_Q o_V res) none := by
  refine Ctr.of (cc := cX8_itemArray) (maxL := 2) (own := RX8) (by decide +kernel) rfl rfl (Nat.le_of_ble_eq_true rfl) ?_
  intro p e s m below meth c A ls hx hb hr hml hown hts hlk hK hE hA hP hD hS hl
  have hl : lv_has ls 2 [(0, .ref (ad 100)), (1, .int a1)] := hl
  unfold f_Model_itemArray at hM
  refine lv_aload_n hx hb dX8_itemArray_0 rfl (lv_at hl 0 rfl) ?_
  refine lv_iconst (v := 1) hx hb dX8_itemArray_1 (by decide) ?_
  refine lv_aload_n hx hb dX8_itemArray_2 rfl (lv_at hl 0 rfl) ?_
  refine va_get (D := D) (ci := 8) (v := .ref (ad 114)) (C := RX8) (T := TX8) (N := 48) hx hb hts layX8 hown hK hP 0 rfl rfl 23 (by decide) (hts _ (inA q1001)) (fun _ h9 => h9) rfl dX8_itemArray_3 ?_
  refine lv_aload_n hx hb dX8_itemArray_6 rfl (lv_at hl 0 rfl) ?_
  refine lv_iload_n hx hb dX8_itemArray_7 rfl (lv_at hl 1 rfl) ?_
  obtain ⟨r1, hcr1, hM⟩ := ob_use hM
  refine cl_V (As := [.int a1]) (rest := [.ref (ad 114), .int 1, .ref (ad 100)]) (wM_TI cI ad o_X o_L o_N o_T o_U o_O o_E o_Q o_V o_I) (.int r1 :: [.ref (ad 114), .int 1, .ref (ad 100)]) ⟨hx, hb, hml, hown, hts⟩ (c_Model_second l D cI sd ad o_C o_X o_L o_N o_U o_O o_E o_Q o_V o_I o_T a1 r1 hcr1) (cwV2 hts q1555 mvX8_second rfl rfl ⟨(Nat.le_of_ble_eq_true rfl), (Nat.le_of_ble_eq_true rfl)⟩) hK hE hA hP hD hS 0 (T := TX8) (N := 48) (ci := 8) rfl rfl [0, 1, 2, 3, 4, 5, 6, 7] rfl (by decide) (mrgE rfl rfl) rfl rfl rfl rfl rfl hl.1 (Nat.le_of_ble_eq_true rfl) dX8_itemArray_8 ⟨Nat.zero_le _, Nat.zero_le _⟩ (fun H locs hP hD hS => ?_)
  obtain ⟨b2, hM⟩ := gd_use hM
  refine va_iald hx hb hK hP 7 0 rfl rfl b2 dX8_itemArray_11 ?_
  obtain ⟨r3, hcr3, hM⟩ := ob_use hM
  refine cl_V (As := [.int 1, .int (o_T.2.2.2.2.2.2.2.2 r1.toNatClampNeg)]) (rest := []) (wM_TI cI ad o_X o_L o_N o_T o_U o_O o_E o_Q o_V r3) [] ⟨hx, hb, hml, hown, hts⟩ (c_Model_item l D cI sd ad o_C o_X o_L o_N o_T o_U o_O o_E o_Q o_V o_I 1 (o_T.2.2.2.2.2.2.2.2 r1.toNatClampNeg) r3 hcr3) (cwV2 hts q1512 mvX8_item rfl rfl ⟨(Nat.le_of_ble_eq_true rfl), (Nat.le_of_ble_eq_true rfl)⟩) hK hE hA hP hD hS 0 (T := TX8) (N := 48) (ci := 8) rfl rfl [0, 8, 9] rfl (by decide) rfl rfl rfl rfl rfl rfl hl.1 (Nat.le_of_ble_eq_true rfl) dX8_itemArray_12 ⟨Nat.zero_le _, Nat.zero_le _⟩ (fun H locs hP hD hS => ?_)
  refine lv_aload_n hx hb dX8_itemArray_15 rfl (lv_at hl 0 rfl) ?_
  refine lv_iconst (v := 0) hx hb dX8_itemArray_16 (by decide) ?_
  refine lv_bipush (v := 15) hx hb dX8_itemArray_17 (by decide) ?_
  obtain ⟨r4, hcr4, hM⟩ := ob_use hM
  refine cl_V (As := [.int 0, .int 15]) (rest := []) (wM_TI cI ad o_X o_L o_N o_T o_U o_O o_E o_Q o_V r4) [] ⟨hx, hb, hml, hown, hts⟩ (c_Model_item l D cI sd ad o_C o_X o_L o_N o_T o_U o_O o_E o_Q o_V r3 0 15 r4 hcr4) (cwV2 hts q1512 mvX8_item rfl rfl ⟨(Nat.le_of_ble_eq_true rfl), (Nat.le_of_ble_eq_true rfl)⟩) hK hE hA hP hD hS 0 (T := TX8) (N := 48) (ci := 8) rfl rfl [0, 8, 9] rfl (by decide) rfl rfl rfl rfl rfl rfl hl.1 (Nat.le_of_ble_eq_true rfl) dX8_itemArray_19 ⟨Nat.zero_le _, Nat.zero_le _⟩ (fun H locs hP hD hS => ?_)
  refine lv_aload_n hx hb dX8_itemArray_22 rfl (lv_at hl 0 rfl) ?_
  refine lv_iconst (v := 0) hx hb dX8_itemArray_23 (by decide) ?_
  refine lv_bipush (v := 58) hx hb dX8_itemArray_24 (by decide) ?_
  obtain ⟨r5, hcr5, hM⟩ := ob_use hM
  refine cl_V (As := [.int 0, .int 58]) (rest := []) (wM_TI cI ad o_X o_L o_N o_T o_U o_O o_E o_Q o_V r5) [] ⟨hx, hb, hml, hown, hts⟩ (c_Model_item l D cI sd ad o_C o_X o_L o_N o_T o_U o_O o_E o_Q o_V r4 0 58 r5 hcr5) (cwV2 hts q1512 mvX8_item rfl rfl ⟨(Nat.le_of_ble_eq_true rfl), (Nat.le_of_ble_eq_true rfl)⟩) hK hE hA hP hD hS 0 (T := TX8) (N := 48) (ci := 8) rfl rfl [0, 8, 9] rfl (by decide) rfl rfl rfl rfl rfl rfl hl.1 (Nat.le_of_ble_eq_true rfl) dX8_itemArray_26 ⟨Nat.zero_le _, Nat.zero_le _⟩ (fun H locs hP hD hS => ?_)
  refine lv_aload_n hx hb dX8_itemArray_29 rfl (lv_at hl 0 rfl) ?_
  refine lv_iconst (v := 1) hx hb dX8_itemArray_30 (by decide) ?_
  refine lv_aload_n hx hb dX8_itemArray_31 rfl (lv_at hl 0 rfl) ?_
  refine lv_iload_n hx hb dX8_itemArray_32 rfl (lv_at hl 1 rfl) ?_
  obtain ⟨r6, hcr6, hM⟩ := ob_use hM
  refine cl_V (As := [.int a1]) (rest := [.int 1, .ref (ad 100)]) (wM_TI cI ad o_X o_L o_N o_T o_U o_O o_E o_Q o_V r5) (.int r6 :: [.int 1, .ref (ad 100)]) ⟨hx, hb, hml, hown, hts⟩ (c_Model_second l D cI sd ad o_C o_X o_L o_N o_U o_O o_E o_Q o_V r5 o_T a1 r6 hcr6) (cwV2 hts q1555 mvX8_second rfl rfl ⟨(Nat.le_of_ble_eq_true rfl), (Nat.le_of_ble_eq_true rfl)⟩) hK hE hA hP hD hS 0 (T := TX8) (N := 48) (ci := 8) rfl rfl [0, 1, 2, 3, 4, 5, 6, 7] rfl (by decide) (mrgE rfl rfl) rfl rfl rfl rfl rfl hl.1 (Nat.le_of_ble_eq_true rfl) dX8_itemArray_33 ⟨Nat.zero_le _, Nat.zero_le _⟩ (fun H locs hP hD hS => ?_)
  obtain ⟨r7, hcr7, hM⟩ := ob_use hM
  refine cl_V (As := [.int 1, .int r6]) (rest := []) (wM_TI cI ad o_X o_L o_N o_T o_U o_O o_E o_Q o_V r7) [] ⟨hx, hb, hml, hown, hts⟩ (c_Model_item l D cI sd ad o_C o_X o_L o_N o_T o_U o_O o_E o_Q o_V r5 1 r6 r7 hcr7) (cwV2 hts q1512 mvX8_item rfl rfl ⟨(Nat.le_of_ble_eq_true rfl), (Nat.le_of_ble_eq_true rfl)⟩) hK hE hA hP hD hS 0 (T := TX8) (N := 48) (ci := 8) rfl rfl [0, 8, 9] rfl (by decide) rfl rfl rfl rfl rfl rfl hl.1 (Nat.le_of_ble_eq_true rfl) dX8_itemArray_36 ⟨Nat.zero_le _, Nat.zero_le _⟩ (fun H locs hP hD hS => ?_)
  refine lv_aload_n hx hb dX8_itemArray_39 rfl (lv_at hl 0 rfl) ?_
  refine lv_iconst (v := 0) hx hb dX8_itemArray_40 (by decide) ?_
  refine lv_bipush (v := 51) hx hb dX8_itemArray_41 (by decide) ?_
  obtain ⟨r8, hcr8, hM⟩ := ob_use hM
  refine cl_V (As := [.int 0, .int 51]) (rest := []) (wM_TI cI ad o_X o_L o_N o_T o_U o_O o_E o_Q o_V r8) [] ⟨hx, hb, hml, hown, hts⟩ (c_Model_item l D cI sd ad o_C o_X o_L o_N o_T o_U o_O o_E o_Q o_V r7 0 51 r8 hcr8) (cwV2 hts q1512 mvX8_item rfl rfl ⟨(Nat.le_of_ble_eq_true rfl), (Nat.le_of_ble_eq_true rfl)⟩) hK hE hA hP hD hS 0 (T := TX8) (N := 48) (ci := 8) rfl rfl [0, 8, 9] rfl (by decide) rfl rfl rfl rfl rfl rfl hl.1 (Nat.le_of_ble_eq_true rfl) dX8_itemArray_43 ⟨Nat.zero_le _, Nat.zero_le _⟩ (fun H locs hP hD hS => ?_)
  refine lv_aload_n hx hb dX8_itemArray_46 rfl (lv_at hl 0 rfl) ?_
  refine lv_iconst (v := 1) hx hb dX8_itemArray_47 (by decide) ?_
  refine lv_aload_n hx hb dX8_itemArray_48 rfl (lv_at hl 0 rfl) ?_
  refine va_get (D := D) (ci := 8) (v := .ref (ad 112)) (C := RX8) (T := TX8) (N := 48) hx hb hts layX8 hown hK hP 0 rfl rfl 21 (by decide) (hts _ (inA q999)) (fun _ h9 => h9) rfl dX8_itemArray_49 ?_
  refine lv_iload_n hx hb dX8_itemArray_52 rfl (lv_at hl 1 rfl) ?_
  obtain ⟨b9, hM⟩ := gd_use hM
  refine va_iald hx hb hK hP 5 0 rfl rfl b9 dX8_itemArray_53 ?_
  obtain ⟨r10, hcr10, hM⟩ := ob_use hM
  refine cl_V (As := [.int 1, .int (o_T.2.2.2.2.2.2.1 a1.toNatClampNeg)]) (rest := []) (wM_TI cI ad o_X o_L o_N o_T o_U o_O o_E o_Q o_V r10) [] ⟨hx, hb, hml, hown, hts⟩ (c_Model_item l D cI sd ad o_C o_X o_L o_N o_T o_U o_O o_E o_Q o_V r8 1 (o_T.2.2.2.2.2.2.1 a1.toNatClampNeg) r10 hcr10) (cwV2 hts q1512 mvX8_item rfl rfl ⟨(Nat.le_of_ble_eq_true rfl), (Nat.le_of_ble_eq_true rfl)⟩) hK hE hA hP hD hS 0 (T := TX8) (N := 48) (ci := 8) rfl rfl [0, 8, 9] rfl (by decide) rfl rfl rfl rfl rfl rfl hl.1 (Nat.le_of_ble_eq_true rfl) dX8_itemArray_54 ⟨Nat.zero_le _, Nat.zero_le _⟩ (fun H locs hP hD hS => ?_)
  refine lv_aload_n hx hb dX8_itemArray_57 rfl (lv_at hl 0 rfl) ?_
  refine lv_iconst (v := 0) hx hb dX8_itemArray_58 (by decide) ?_
  refine lv_bipush (v := 57) hx hb dX8_itemArray_59 (by decide) ?_
  obtain ⟨r11, hcr11, hM⟩ := ob_use hM
  refine cl_V (As := [.int 0, .int 57]) (rest := []) (wM_TI cI ad o_X o_L o_N o_T o_U o_O o_E o_Q o_V r11) [] ⟨hx, hb, hml, hown, hts⟩ (c_Model_item l D cI sd ad o_C o_X o_L o_N o_T o_U o_O o_E o_Q o_V r10 0 57 r11 hcr11) (cwV2 hts q1512 mvX8_item rfl rfl ⟨(Nat.le_of_ble_eq_true rfl), (Nat.le_of_ble_eq_true rfl)⟩) hK hE hA hP hD hS 0 (T := TX8) (N := 48) (ci := 8) rfl rfl [0, 8, 9] rfl (by decide) rfl rfl rfl rfl rfl rfl hl.1 (Nat.le_of_ble_eq_true rfl) dX8_itemArray_61 ⟨Nat.zero_le _, Nat.zero_le _⟩ (fun H locs hP hD hS => ?_)
  refine lv_aload_n hx hb dX8_itemArray_64 rfl (lv_at hl 0 rfl) ?_
  refine lv_iconst (v := 0) hx hb dX8_itemArray_65 (by decide) ?_
  refine lv_bipush (v := 14) hx hb dX8_itemArray_66 (by decide) ?_
  obtain ⟨r12, hcr12, hM⟩ := ob_use hM
  refine cl_V (As := [.int 0, .int 14]) (rest := []) (wM_TI cI ad o_X o_L o_N o_T o_U o_O o_E o_Q o_V r12) [] ⟨hx, hb, hml, hown, hts⟩ (c_Model_item l D cI sd ad o_C o_X o_L o_N o_T o_U o_O o_E o_Q o_V r11 0 14 r12 hcr12) (cwV2 hts q1512 mvX8_item rfl rfl ⟨(Nat.le_of_ble_eq_true rfl), (Nat.le_of_ble_eq_true rfl)⟩) hK hE hA hP hD hS 0 (T := TX8) (N := 48) (ci := 8) rfl rfl [0, 8, 9] rfl (by decide) rfl rfl rfl rfl rfl rfl hl.1 (Nat.le_of_ble_eq_true rfl) dX8_itemArray_68 ⟨Nat.zero_le _, Nat.zero_le _⟩ (fun H locs hP hD hS => ?_)
  cases hM
  exact rt_v hx hb hr hlk hP hD hS rfl dX8_itemArray_71

set_option maxHeartbeats 4000000 in
set_option maxRecDepth 100000 in
theorem c_Model_itemAll (l : Launch) (D : va_G) (cI : ClassId) (sd : Nat → Nat) (ad : Nat → Nat) (o_C : S_MC) (o_X : S_MX) (o_L : S_ML) (o_N : S_MN) (o_U : S_MU) (o_O : S_MO) (o_E : S_ME) (o_Q : S_MQ) (o_V : S_MV) (o_T : S_MT) (o_I : S_MI) (a1 : Int32) (a2 : Int32) (a3 : Int32) (a4 : Int32) (res : S_MI) (hM : f_Model_itemAll o_T o_I a1 a2 a3 a4 = some res) : Ctr l D cI sd yX8_itemAll (wsM yX8_itemAll cX8_itemAll 5 (Option.none : Option Jvm.ClassFile.FieldType)) { frames := 1, cells := 0, slots := 0, locals := 22 } [.ref (ad 100), .int a1, .int a2, .int a3, .int a4] (wM_TI cI ad o_X o_L o_N o_T o_U o_O o_E o_Q o_V o_I) (wM_TI cI ad o_X o_L o_N o_T o_U o_O o_E o_Q o_V res) none := by
  refine Ctr.of (cc := cX8_itemAll) (maxL := 5) (own := RX8) (by decide +kernel) rfl rfl (Nat.le_of_ble_eq_true rfl) ?_
  intro p e s m below meth c A ls hx hb hr hml hown hts hlk hK hE hA hP hD hS hl
  have hl : lv_has ls 5 [(0, .ref (ad 100)), (1, .int a1), (2, .int a2), (3, .int a3), (4, .int a4)] := hl
  unfold f_Model_itemAll at hM
  refine lv_iload_n hx hb dX8_itemAll_0 rfl (lv_at hl 1 rfl) ?_
  refine lv_iconst (v := (-1)) hx hb dX8_itemAll_1 (by decide) ?_
  refine lv_icmp_eq (tgt := 11) hx hb dX8_itemAll_2 (by decide) (fun c1 => ?_) (fun c1 => ?_)
  · replace hM := if_t c1 hM
    refine lv_aload_n hx hb dX8_itemAll_11 rfl (lv_at hl 0 rfl) ?_
    refine lv_iload_n hx hb dX8_itemAll_12 rfl (lv_at hl 2 rfl) ?_
    refine lv_aload_n hx hb dX8_itemAll_13 rfl (lv_at hl 0 rfl) ?_
    refine va_get (D := D) (ci := 8) (v := .ref (ad 112)) (C := RX8) (T := TX8) (N := 48) hx hb hts layX8 hown hK hP 0 rfl rfl 21 (by decide) (hts _ (inA q999)) (fun _ h9 => h9) rfl dX8_itemAll_14 ?_
    refine lv_iload_n hx hb dX8_itemAll_17 rfl (lv_at hl 3 rfl) ?_
    obtain ⟨b2, hM⟩ := gd_use hM
    refine va_iald hx hb hK hP 5 0 rfl rfl b2 dX8_itemAll_18 ?_
    obtain ⟨r3, hcr3, hM⟩ := ob_use hM
    refine cl_V (As := [.int a2, .int (o_T.2.2.2.2.2.2.1 a3.toNatClampNeg)]) (rest := []) (wM_TI cI ad o_X o_L o_N o_T o_U o_O o_E o_Q o_V r3) [] ⟨hx, hb, hml, hown, hts⟩ (c_Model_item l D cI sd ad o_C o_X o_L o_N o_T o_U o_O o_E o_Q o_V o_I a2 (o_T.2.2.2.2.2.2.1 a3.toNatClampNeg) r3 hcr3) (cwV2 hts q1512 mvX8_item rfl rfl ⟨(Nat.le_of_ble_eq_true rfl), (Nat.le_of_ble_eq_true rfl)⟩) hK hE hA hP hD hS 0 (T := TX8) (N := 48) (ci := 8) rfl rfl [0, 8, 9] rfl (by decide) rfl rfl rfl rfl rfl rfl hl.1 (Nat.le_of_ble_eq_true rfl) dX8_itemAll_19 ⟨Nat.zero_le _, Nat.zero_le _⟩ (fun H locs hP hD hS => ?_)
    refine lv_iload hx hb dX8_itemAll_22 (lv_at hl 4 rfl) ?_
    refine lv_iconst (v := (-1)) hx hb dX8_itemAll_24 (by decide) ?_
    refine lv_icmp_eq (tgt := 35) hx hb dX8_itemAll_25 (by decide) (fun c4 => ?_) (fun c4 => ?_)
    · replace hM := if_t c4 hM
      cases hM
      exact rt_v hx hb hr hlk hP hD hS rfl dX8_itemAll_35
    · replace hM := if_f c4 hM
      refine lv_aload_n hx hb dX8_itemAll_28 rfl (lv_at hl 0 rfl) ?_
      refine lv_iconst (v := 0) hx hb dX8_itemAll_29 (by decide) ?_
      refine lv_iload hx hb dX8_itemAll_30 (lv_at hl 4 rfl) ?_
      obtain ⟨r5, hcr5, hM⟩ := ob_use hM
      refine cl_V (As := [.int 0, .int a4]) (rest := []) (wM_TI cI ad o_X o_L o_N o_T o_U o_O o_E o_Q o_V r5) [] ⟨hx, hb, hml, hown, hts⟩ (c_Model_item l D cI sd ad o_C o_X o_L o_N o_T o_U o_O o_E o_Q o_V r3 0 a4 r5 hcr5) (cwV2 hts q1512 mvX8_item rfl rfl ⟨(Nat.le_of_ble_eq_true rfl), (Nat.le_of_ble_eq_true rfl)⟩) hK hE hA hP hD hS 0 (T := TX8) (N := 48) (ci := 8) rfl rfl [0, 8, 9] rfl (by decide) rfl rfl rfl rfl rfl rfl hl.1 (Nat.le_of_ble_eq_true rfl) dX8_itemAll_32 ⟨Nat.zero_le _, Nat.zero_le _⟩ (fun H locs hP hD hS => ?_)
      cases hM
      exact rt_v hx hb hr hlk hP hD hS rfl dX8_itemAll_35
  · replace hM := if_f c1 hM
    refine lv_aload_n hx hb dX8_itemAll_5 rfl (lv_at hl 0 rfl) ?_
    refine lv_iconst (v := 0) hx hb dX8_itemAll_6 (by decide) ?_
    refine lv_iload_n hx hb dX8_itemAll_7 rfl (lv_at hl 1 rfl) ?_
    obtain ⟨r6, hcr6, hM⟩ := ob_use hM
    refine cl_V (As := [.int 0, .int a1]) (rest := []) (wM_TI cI ad o_X o_L o_N o_T o_U o_O o_E o_Q o_V r6) [] ⟨hx, hb, hml, hown, hts⟩ (c_Model_item l D cI sd ad o_C o_X o_L o_N o_T o_U o_O o_E o_Q o_V o_I 0 a1 r6 hcr6) (cwV2 hts q1512 mvX8_item rfl rfl ⟨(Nat.le_of_ble_eq_true rfl), (Nat.le_of_ble_eq_true rfl)⟩) hK hE hA hP hD hS 0 (T := TX8) (N := 48) (ci := 8) rfl rfl [0, 8, 9] rfl (by decide) rfl rfl rfl rfl rfl rfl hl.1 (Nat.le_of_ble_eq_true rfl) dX8_itemAll_8 ⟨Nat.zero_le _, Nat.zero_le _⟩ (fun H locs hP hD hS => ?_)
    refine lv_aload_n hx hb dX8_itemAll_11 rfl (lv_at hl 0 rfl) ?_
    refine lv_iload_n hx hb dX8_itemAll_12 rfl (lv_at hl 2 rfl) ?_
    refine lv_aload_n hx hb dX8_itemAll_13 rfl (lv_at hl 0 rfl) ?_
    refine va_get (D := D) (ci := 8) (v := .ref (ad 112)) (C := RX8) (T := TX8) (N := 48) hx hb hts layX8 hown hK hP 0 rfl rfl 21 (by decide) (hts _ (inA q999)) (fun _ h9 => h9) rfl dX8_itemAll_14 ?_
    refine lv_iload_n hx hb dX8_itemAll_17 rfl (lv_at hl 3 rfl) ?_
    obtain ⟨b7, hM⟩ := gd_use hM
    refine va_iald hx hb hK hP 5 0 rfl rfl b7 dX8_itemAll_18 ?_
    obtain ⟨r8, hcr8, hM⟩ := ob_use hM
    refine cl_V (As := [.int a2, .int (o_T.2.2.2.2.2.2.1 a3.toNatClampNeg)]) (rest := []) (wM_TI cI ad o_X o_L o_N o_T o_U o_O o_E o_Q o_V r8) [] ⟨hx, hb, hml, hown, hts⟩ (c_Model_item l D cI sd ad o_C o_X o_L o_N o_T o_U o_O o_E o_Q o_V r6 a2 (o_T.2.2.2.2.2.2.1 a3.toNatClampNeg) r8 hcr8) (cwV2 hts q1512 mvX8_item rfl rfl ⟨(Nat.le_of_ble_eq_true rfl), (Nat.le_of_ble_eq_true rfl)⟩) hK hE hA hP hD hS 0 (T := TX8) (N := 48) (ci := 8) rfl rfl [0, 8, 9] rfl (by decide) rfl rfl rfl rfl rfl rfl hl.1 (Nat.le_of_ble_eq_true rfl) dX8_itemAll_19 ⟨Nat.zero_le _, Nat.zero_le _⟩ (fun H locs hP hD hS => ?_)
    refine lv_iload hx hb dX8_itemAll_22 (lv_at hl 4 rfl) ?_
    refine lv_iconst (v := (-1)) hx hb dX8_itemAll_24 (by decide) ?_
    refine lv_icmp_eq (tgt := 35) hx hb dX8_itemAll_25 (by decide) (fun c9 => ?_) (fun c9 => ?_)
    · replace hM := if_t c9 hM
      cases hM
      exact rt_v hx hb hr hlk hP hD hS rfl dX8_itemAll_35
    · replace hM := if_f c9 hM
      refine lv_aload_n hx hb dX8_itemAll_28 rfl (lv_at hl 0 rfl) ?_
      refine lv_iconst (v := 0) hx hb dX8_itemAll_29 (by decide) ?_
      refine lv_iload hx hb dX8_itemAll_30 (lv_at hl 4 rfl) ?_
      obtain ⟨r10, hcr10, hM⟩ := ob_use hM
      refine cl_V (As := [.int 0, .int a4]) (rest := []) (wM_TI cI ad o_X o_L o_N o_T o_U o_O o_E o_Q o_V r10) [] ⟨hx, hb, hml, hown, hts⟩ (c_Model_item l D cI sd ad o_C o_X o_L o_N o_T o_U o_O o_E o_Q o_V r8 0 a4 r10 hcr10) (cwV2 hts q1512 mvX8_item rfl rfl ⟨(Nat.le_of_ble_eq_true rfl), (Nat.le_of_ble_eq_true rfl)⟩) hK hE hA hP hD hS 0 (T := TX8) (N := 48) (ci := 8) rfl rfl [0, 8, 9] rfl (by decide) rfl rfl rfl rfl rfl rfl hl.1 (Nat.le_of_ble_eq_true rfl) dX8_itemAll_32 ⟨Nat.zero_le _, Nat.zero_le _⟩ (fun H locs hP hD hS => ?_)
      cases hM
      exact rt_v hx hb hr hlk hP hD hS rfl dX8_itemAll_35

set_option maxHeartbeats 4000000 in
set_option maxRecDepth 100000 in
theorem c_Model_itemOperand (l : Launch) (D : va_G) (cI : ClassId) (sd : Nat → Nat) (ad : Nat → Nat) (o_C : S_MC) (o_X : S_MX) (o_L : S_ML) (o_N : S_MN) (o_U : S_MU) (o_O : S_MO) (o_E : S_ME) (o_Q : S_MQ) (o_V : S_MV) (o_T : S_MT) (o_I : S_MI) (a1 : Int32) (a2 : Int32) (a3 : Int32) (res : S_MI) (hM : f_Model_itemOperand o_T o_I a1 a2 a3 = some res) : Ctr l D cI sd yX8_itemOperand (wsM yX8_itemOperand cX8_itemOperand 8 (Option.none : Option Jvm.ClassFile.FieldType)) { frames := 1, cells := 0, slots := 0, locals := 22 } [.ref (ad 100), .int a1, .int a2, .int a3] (wM_TI cI ad o_X o_L o_N o_T o_U o_O o_E o_Q o_V o_I) (wM_TI cI ad o_X o_L o_N o_T o_U o_O o_E o_Q o_V res) none := by
  refine Ctr.of (cc := cX8_itemOperand) (maxL := 8) (own := RX8) (by decide +kernel) rfl rfl (Nat.le_of_ble_eq_true rfl) ?_
  intro p e s m below meth c A ls hx hb hr hml hown hts hlk hK hE hA hP hD hS hl
  have hl : lv_has ls 8 [(0, .ref (ad 100)), (1, .int a1), (2, .int a2), (3, .int a3)] := hl
  unfold f_Model_itemOperand at hM
  refine lv_aload_n hx hb dX8_itemOperand_0 rfl (lv_at hl 0 rfl) ?_
  refine va_get (D := D) (ci := 8) (v := .ref (ad 108)) (C := RX8) (T := TX8) (N := 48) hx hb hts layX8 hown hK hP 0 rfl rfl 17 (by decide) (hts _ (inA q995)) (fun _ h9 => h9) rfl dX8_itemOperand_1 ?_
  refine lv_iload_n hx hb dX8_itemOperand_4 rfl (lv_at hl 1 rfl) ?_
  obtain ⟨b1, hM⟩ := gd_use hM
  refine va_iald hx hb hK hP 1 0 rfl rfl b1 dX8_itemOperand_5 ?_
  refine lv_bipush (v := 35) hx hb dX8_itemOperand_6 (by decide) ?_
  refine lv_icmp_ne (tgt := 15) hx hb dX8_itemOperand_8 (by decide) (fun c2 => ?_) (fun c2 => ?_)
  · replace hM := if_f c2 hM
    refine lv_iconst (v := 0) hx hb dX8_itemOperand_15 (by decide) ?_
    refine lv_istore (lv' := [(4, .int 0), (0, .ref (ad 100)), (1, .int a1), (2, .int a2), (3, .int a3)]) hx hb dX8_itemOperand_16 hl (by decide) rfl (fun ls hl => ?_)
    refine lv_iload hx hb dX8_itemOperand_18 (lv_at hl 0 rfl) ?_
    refine lv_if_eq (tgt := 35) hx hb dX8_itemOperand_20 (by decide) (fun c3 => ?_) (fun c3 => False.elim (by revert c3; decide))
    refine lv_iconst (v := 0) hx hb dX8_itemOperand_35 (by decide) ?_
    refine lv_istore (lv' := [(5, .int 0), (4, .int 0), (0, .ref (ad 100)), (1, .int a1), (2, .int a2), (3, .int a3)]) hx hb dX8_itemOperand_36 hl (by decide) rfl (fun ls hl => ?_)
    refine lv_aload_n hx hb dX8_itemOperand_38 rfl (lv_at hl 2 rfl) ?_
    refine va_get (D := D) (ci := 8) (v := .ref (ad 108)) (C := RX8) (T := TX8) (N := 48) hx hb hts layX8 hown hK hP 0 rfl rfl 17 (by decide) (hts _ (inA q995)) (fun _ h9 => h9) rfl dX8_itemOperand_39 ?_
    refine lv_iload_n hx hb dX8_itemOperand_42 rfl (lv_at hl 4 rfl) ?_
    obtain ⟨b4, hM⟩ := gd_use hM
    refine va_iald hx hb hK hP 1 0 rfl rfl b4 dX8_itemOperand_43 ?_
    refine lv_bipush (v := 36) hx hb dX8_itemOperand_44 (by decide) ?_
    refine lv_icmp_ne (tgt := 54) hx hb dX8_itemOperand_46 (by decide) (fun c5 => ?_) (fun c5 => ?_)
    · replace hM := if_f c5 hM
      refine lv_aload_n hx hb dX8_itemOperand_54 rfl (lv_at hl 2 rfl) ?_
      refine va_get (D := D) (ci := 8) (v := .ref (ad 110)) (C := RX8) (T := TX8) (N := 48) hx hb hts layX8 hown hK hP 0 rfl rfl 19 (by decide) (hts _ (inA q997)) (fun _ h9 => h9) rfl dX8_itemOperand_55 ?_
      refine lv_iload_n hx hb dX8_itemOperand_58 rfl (lv_at hl 4 rfl) ?_
      obtain ⟨b6, hM⟩ := gd_use hM
      refine va_iald hx hb hK hP 3 0 rfl rfl b6 dX8_itemOperand_59 ?_
      obtain ⟨r7, hcr7, hM⟩ := ob_use hM
      refine cl_S (As := [.int (o_T.2.2.2.2.1 a2.toNatClampNeg)]) (rest := []) (wM_TI cI ad o_X o_L o_N o_T o_U o_O o_E o_Q o_V o_I) (.int r7 :: []) ⟨hx, hb, hml, hown, hts⟩ (c_Model_closeness l D cI sd ad (o_T.2.2.2.2.1 a2.toNatClampNeg) r7 hcr7) (cwS2 hts q1413 mvX8_closeness rfl rfl ⟨(Nat.le_of_ble_eq_true rfl), (Nat.le_of_ble_eq_true rfl)⟩) hK hE hA hP hD hS [] rfl (by decide) rfl rfl rfl rfl rfl rfl hl.1 (Nat.le_of_ble_eq_true rfl) dX8_itemOperand_60 ⟨Nat.zero_le _, Nat.zero_le _⟩ (fun H locs hP hD hS => ?_)
      refine lv_istore (lv' := [(6, .int r7), (5, .int 0), (4, .int 0), (0, .ref (ad 100)), (1, .int a1), (2, .int a2), (3, .int a3)]) hx hb dX8_itemOperand_63 hl (by decide) rfl (fun ls hl => ?_)
      refine lv_iload hx hb dX8_itemOperand_65 (lv_at hl 2 rfl) ?_
      refine lv_if_eq (tgt := 92) hx hb dX8_itemOperand_67 (by decide) (fun c8 => ?_) (fun c8 => False.elim (by revert c8; decide))
      refine lv_iconst (v := 0) hx hb dX8_itemOperand_92 (by decide) ?_
      refine lv_istore (lv' := [(7, .int 0), (6, .int r7), (5, .int 0), (4, .int 0), (0, .ref (ad 100)), (1, .int a1), (2, .int a2), (3, .int a3)]) hx hb dX8_itemOperand_93 hl (by decide) rfl (fun ls hl => ?_)
      refine lv_iload hx hb dX8_itemOperand_95 (lv_at hl 0 rfl) ?_
      refine lv_if_eq (tgt := 107) hx hb dX8_itemOperand_97 (by decide) (fun c9 => ?_) (fun c9 => False.elim (by revert c9; decide))
      refine lv_aload_n hx hb dX8_itemOperand_107 rfl (lv_at hl 4 rfl) ?_
      refine lv_iconst (v := 1) hx hb dX8_itemOperand_108 (by decide) ?_
      refine lv_iload_n hx hb dX8_itemOperand_109 rfl (lv_at hl 5 rfl) ?_
      obtain ⟨r10, hcr10, hM⟩ := ob_use hM
      refine cl_V (As := [.int 1, .int a1]) (rest := []) (wM_TI cI ad o_X o_L o_N o_T o_U o_O o_E o_Q o_V r10) [] ⟨hx, hb, hml, hown, hts⟩ (c_Model_item l D cI sd ad o_C o_X o_L o_N o_T o_U o_O o_E o_Q o_V o_I 1 a1 r10 hcr10) (cwV2 hts q1512 mvX8_item rfl rfl ⟨(Nat.le_of_ble_eq_true rfl), (Nat.le_of_ble_eq_true rfl)⟩) hK hE hA hP hD hS 0 (T := TX8) (N := 48) (ci := 8) rfl rfl [0, 8, 9] rfl (by decide) rfl rfl rfl rfl rfl rfl hl.1 (Nat.le_of_ble_eq_true rfl) dX8_itemOperand_110 ⟨Nat.zero_le _, Nat.zero_le _⟩ (fun H locs hP hD hS => ?_)
      refine lv_iload hx hb dX8_itemOperand_113 (lv_at hl 0 rfl) ?_
      refine lv_if_eq (tgt := 125) hx hb dX8_itemOperand_115 (by decide) (fun c11 => ?_) (fun c11 => False.elim (by revert c11; decide))
      cases hM
      exact rt_v hx hb hr hlk hP hD hS rfl dX8_itemOperand_125
    · replace hM := if_t c5 hM
      refine lv_bipush (v := 8) hx hb dX8_itemOperand_49 (by decide) ?_
      refine lv_goto (tgt := 63) hx hb dX8_itemOperand_51 (by decide) ?_
      refine lv_istore (lv' := [(6, .int 8), (5, .int 0), (4, .int 0), (0, .ref (ad 100)), (1, .int a1), (2, .int a2), (3, .int a3)]) hx hb dX8_itemOperand_63 hl (by decide) rfl (fun ls hl => ?_)
      refine lv_iload hx hb dX8_itemOperand_65 (lv_at hl 2 rfl) ?_
      refine lv_if_eq (tgt := 92) hx hb dX8_itemOperand_67 (by decide) (fun c12 => ?_) (fun c12 => False.elim (by revert c12; decide))
      refine lv_iconst (v := 0) hx hb dX8_itemOperand_92 (by decide) ?_
      refine lv_istore (lv' := [(7, .int 0), (6, .int 8), (5, .int 0), (4, .int 0), (0, .ref (ad 100)), (1, .int a1), (2, .int a2), (3, .int a3)]) hx hb dX8_itemOperand_93 hl (by decide) rfl (fun ls hl => ?_)
      refine lv_iload hx hb dX8_itemOperand_95 (lv_at hl 0 rfl) ?_
      refine lv_if_eq (tgt := 107) hx hb dX8_itemOperand_97 (by decide) (fun c13 => ?_) (fun c13 => False.elim (by revert c13; decide))
      refine lv_aload_n hx hb dX8_itemOperand_107 rfl (lv_at hl 4 rfl) ?_
      refine lv_iconst (v := 1) hx hb dX8_itemOperand_108 (by decide) ?_
      refine lv_iload_n hx hb dX8_itemOperand_109 rfl (lv_at hl 5 rfl) ?_
      obtain ⟨r14, hcr14, hM⟩ := ob_use hM
      refine cl_V (As := [.int 1, .int a1]) (rest := []) (wM_TI cI ad o_X o_L o_N o_T o_U o_O o_E o_Q o_V r14) [] ⟨hx, hb, hml, hown, hts⟩ (c_Model_item l D cI sd ad o_C o_X o_L o_N o_T o_U o_O o_E o_Q o_V o_I 1 a1 r14 hcr14) (cwV2 hts q1512 mvX8_item rfl rfl ⟨(Nat.le_of_ble_eq_true rfl), (Nat.le_of_ble_eq_true rfl)⟩) hK hE hA hP hD hS 0 (T := TX8) (N := 48) (ci := 8) rfl rfl [0, 8, 9] rfl (by decide) rfl rfl rfl rfl rfl rfl hl.1 (Nat.le_of_ble_eq_true rfl) dX8_itemOperand_110 ⟨Nat.zero_le _, Nat.zero_le _⟩ (fun H locs hP hD hS => ?_)
      refine lv_iload hx hb dX8_itemOperand_113 (lv_at hl 0 rfl) ?_
      refine lv_if_eq (tgt := 125) hx hb dX8_itemOperand_115 (by decide) (fun c15 => ?_) (fun c15 => False.elim (by revert c15; decide))
      cases hM
      exact rt_v hx hb hr hlk hP hD hS rfl dX8_itemOperand_125
  · replace hM := if_t c2 hM
    refine lv_iconst (v := 1) hx hb dX8_itemOperand_11 (by decide) ?_
    refine lv_goto (tgt := 16) hx hb dX8_itemOperand_12 (by decide) ?_
    refine lv_istore (lv' := [(4, .int 1), (0, .ref (ad 100)), (1, .int a1), (2, .int a2), (3, .int a3)]) hx hb dX8_itemOperand_16 hl (by decide) rfl (fun ls hl => ?_)
    refine lv_iload hx hb dX8_itemOperand_18 (lv_at hl 0 rfl) ?_
    refine lv_if_eq (tgt := 35) hx hb dX8_itemOperand_20 (by decide) (fun c16 => False.elim (by revert c16; decide)) (fun c16 => ?_)
    refine lv_aload_n hx hb dX8_itemOperand_23 rfl (lv_at hl 1 rfl) ?_
    refine va_get (D := D) (ci := 8) (v := .ref (ad 110)) (C := RX8) (T := TX8) (N := 48) hx hb hts layX8 hown hK hP 0 rfl rfl 19 (by decide) (hts _ (inA q997)) (fun _ h9 => h9) rfl dX8_itemOperand_24 ?_
    refine lv_iload_n hx hb dX8_itemOperand_27 rfl (lv_at hl 2 rfl) ?_
    obtain ⟨b17, hM⟩ := gd_use hM
    refine va_iald hx hb hK hP 3 0 rfl rfl b17 dX8_itemOperand_28 ?_
    obtain ⟨r18, hcr18, hM⟩ := ob_use hM
    refine cl_S (As := [.int (o_T.2.2.2.2.1 a1.toNatClampNeg)]) (rest := []) (wM_TI cI ad o_X o_L o_N o_T o_U o_O o_E o_Q o_V o_I) (.int r18 :: []) ⟨hx, hb, hml, hown, hts⟩ (c_Model_closeness l D cI sd ad (o_T.2.2.2.2.1 a1.toNatClampNeg) r18 hcr18) (cwS2 hts q1413 mvX8_closeness rfl rfl ⟨(Nat.le_of_ble_eq_true rfl), (Nat.le_of_ble_eq_true rfl)⟩) hK hE hA hP hD hS [] rfl (by decide) rfl rfl rfl rfl rfl rfl hl.1 (Nat.le_of_ble_eq_true rfl) dX8_itemOperand_29 ⟨Nat.zero_le _, Nat.zero_le _⟩ (fun H locs hP hD hS => ?_)
    refine lv_goto (tgt := 36) hx hb dX8_itemOperand_32 (by decide) ?_
    refine lv_istore (lv' := [(5, .int r18), (4, .int 1), (0, .ref (ad 100)), (1, .int a1), (2, .int a2), (3, .int a3)]) hx hb dX8_itemOperand_36 hl (by decide) rfl (fun ls hl => ?_)
    refine lv_aload_n hx hb dX8_itemOperand_38 rfl (lv_at hl 2 rfl) ?_
    refine va_get (D := D) (ci := 8) (v := .ref (ad 108)) (C := RX8) (T := TX8) (N := 48) hx hb hts layX8 hown hK hP 0 rfl rfl 17 (by decide) (hts _ (inA q995)) (fun _ h9 => h9) rfl dX8_itemOperand_39 ?_
    refine lv_iload_n hx hb dX8_itemOperand_42 rfl (lv_at hl 4 rfl) ?_
    obtain ⟨b19, hM⟩ := gd_use hM
    refine va_iald hx hb hK hP 1 0 rfl rfl b19 dX8_itemOperand_43 ?_
    refine lv_bipush (v := 36) hx hb dX8_itemOperand_44 (by decide) ?_
    refine lv_icmp_ne (tgt := 54) hx hb dX8_itemOperand_46 (by decide) (fun c20 => ?_) (fun c20 => ?_)
    · replace hM := if_f c20 hM
      refine lv_aload_n hx hb dX8_itemOperand_54 rfl (lv_at hl 2 rfl) ?_
      refine va_get (D := D) (ci := 8) (v := .ref (ad 110)) (C := RX8) (T := TX8) (N := 48) hx hb hts layX8 hown hK hP 0 rfl rfl 19 (by decide) (hts _ (inA q997)) (fun _ h9 => h9) rfl dX8_itemOperand_55 ?_
      refine lv_iload_n hx hb dX8_itemOperand_58 rfl (lv_at hl 4 rfl) ?_
      obtain ⟨b21, hM⟩ := gd_use hM
      refine va_iald hx hb hK hP 3 0 rfl rfl b21 dX8_itemOperand_59 ?_
      obtain ⟨r22, hcr22, hM⟩ := ob_use hM
      refine cl_S (As := [.int (o_T.2.2.2.2.1 a2.toNatClampNeg)]) (rest := []) (wM_TI cI ad o_X o_L o_N o_T o_U o_O o_E o_Q o_V o_I) (.int r22 :: []) ⟨hx, hb, hml, hown, hts⟩ (c_Model_closeness l D cI sd ad (o_T.2.2.2.2.1 a2.toNatClampNeg) r22 hcr22) (cwS2 hts q1413 mvX8_closeness rfl rfl ⟨(Nat.le_of_ble_eq_true rfl), (Nat.le_of_ble_eq_true rfl)⟩) hK hE hA hP hD hS [] rfl (by decide) rfl rfl rfl rfl rfl rfl hl.1 (Nat.le_of_ble_eq_true rfl) dX8_itemOperand_60 ⟨Nat.zero_le _, Nat.zero_le _⟩ (fun H locs hP hD hS => ?_)
      refine lv_istore (lv' := [(6, .int r22), (5, .int r18), (4, .int 1), (0, .ref (ad 100)), (1, .int a1), (2, .int a2), (3, .int a3)]) hx hb dX8_itemOperand_63 hl (by decide) rfl (fun ls hl => ?_)
      refine lv_iload hx hb dX8_itemOperand_65 (lv_at hl 2 rfl) ?_
      refine lv_if_eq (tgt := 92) hx hb dX8_itemOperand_67 (by decide) (fun c23 => False.elim (by revert c23; decide)) (fun c23 => ?_)
      refine lv_iload hx hb dX8_itemOperand_70 (lv_at hl 0 rfl) ?_
      refine lv_iload hx hb dX8_itemOperand_72 (lv_at hl 1 rfl) ?_
      refine lv_icmp_gt (tgt := 88) hx hb dX8_itemOperand_74 (by decide) (fun c24 => ?_) (fun c24 => ?_)
      · replace hM := if_t c24 hM
        refine lv_iconst (v := 1) hx hb dX8_itemOperand_88 (by decide) ?_
        refine lv_goto (tgt := 93) hx hb dX8_itemOperand_89 (by decide) ?_
        refine lv_istore (lv' := [(7, .int 1), (6, .int r22), (5, .int r18), (4, .int 1), (0, .ref (ad 100)), (1, .int a1), (2, .int a2), (3, .int a3)]) hx hb dX8_itemOperand_93 hl (by decide) rfl (fun ls hl => ?_)
        refine lv_iload hx hb dX8_itemOperand_95 (lv_at hl 0 rfl) ?_
        refine lv_if_eq (tgt := 107) hx hb dX8_itemOperand_97 (by decide) (fun c25 => False.elim (by revert c25; decide)) (fun c25 => ?_)
        refine lv_aload_n hx hb dX8_itemOperand_100 rfl (lv_at hl 4 rfl) ?_
        refine lv_iconst (v := 0) hx hb dX8_itemOperand_101 (by decide) ?_
        refine lv_bipush (v := 56) hx hb dX8_itemOperand_102 (by decide) ?_
        obtain ⟨r26, hcr26, hM⟩ := ob_use hM
        refine cl_V (As := [.int 0, .int 56]) (rest := []) (wM_TI cI ad o_X o_L o_N o_T o_U o_O o_E o_Q o_V r26) [] ⟨hx, hb, hml, hown, hts⟩ (c_Model_item l D cI sd ad o_C o_X o_L o_N o_T o_U o_O o_E o_Q o_V o_I 0 56 r26 hcr26) (cwV2 hts q1512 mvX8_item rfl rfl ⟨(Nat.le_of_ble_eq_true rfl), (Nat.le_of_ble_eq_true rfl)⟩) hK hE hA hP hD hS 0 (T := TX8) (N := 48) (ci := 8) rfl rfl [0, 8, 9] rfl (by decide) rfl rfl rfl rfl rfl rfl hl.1 (Nat.le_of_ble_eq_true rfl) dX8_itemOperand_104 ⟨Nat.zero_le _, Nat.zero_le _⟩ (fun H locs hP hD hS => ?_)
        refine lv_aload_n hx hb dX8_itemOperand_107 rfl (lv_at hl 4 rfl) ?_
        refine lv_iconst (v := 1) hx hb dX8_itemOperand_108 (by decide) ?_
        refine lv_iload_n hx hb dX8_itemOperand_109 rfl (lv_at hl 5 rfl) ?_
        obtain ⟨r27, hcr27, hM⟩ := ob_use hM
        refine cl_V (As := [.int 1, .int a1]) (rest := []) (wM_TI cI ad o_X o_L o_N o_T o_U o_O o_E o_Q o_V r27) [] ⟨hx, hb, hml, hown, hts⟩ (c_Model_item l D cI sd ad o_C o_X o_L o_N o_T o_U o_O o_E o_Q o_V r26 1 a1 r27 hcr27) (cwV2 hts q1512 mvX8_item rfl rfl ⟨(Nat.le_of_ble_eq_true rfl), (Nat.le_of_ble_eq_true rfl)⟩) hK hE hA hP hD hS 0 (T := TX8) (N := 48) (ci := 8) rfl rfl [0, 8, 9] rfl (by decide) rfl rfl rfl rfl rfl rfl hl.1 (Nat.le_of_ble_eq_true rfl) dX8_itemOperand_110 ⟨Nat.zero_le _, Nat.zero_le _⟩ (fun H locs hP hD hS => ?_)
        refine lv_iload hx hb dX8_itemOperand_113 (lv_at hl 0 rfl) ?_
        refine lv_if_eq (tgt := 125) hx hb dX8_itemOperand_115 (by decide) (fun c28 => False.elim (by revert c28; decide)) (fun c28 => ?_)
        refine lv_aload_n hx hb dX8_itemOperand_118 rfl (lv_at hl 4 rfl) ?_
        refine lv_iconst (v := 0) hx hb dX8_itemOperand_119 (by decide) ?_
        refine lv_bipush (v := 55) hx hb dX8_itemOperand_120 (by decide) ?_
        obtain ⟨r29, hcr29, hM⟩ := ob_use hM
        refine cl_V (As := [.int 0, .int 55]) (rest := []) (wM_TI cI ad o_X o_L o_N o_T o_U o_O o_E o_Q o_V r29) [] ⟨hx, hb, hml, hown, hts⟩ (c_Model_item l D cI sd ad o_C o_X o_L o_N o_T o_U o_O o_E o_Q o_V r27 0 55 r29 hcr29) (cwV2 hts q1512 mvX8_item rfl rfl ⟨(Nat.le_of_ble_eq_true rfl), (Nat.le_of_ble_eq_true rfl)⟩) hK hE hA hP hD hS 0 (T := TX8) (N := 48) (ci := 8) rfl rfl [0, 8, 9] rfl (by decide) rfl rfl rfl rfl rfl rfl hl.1 (Nat.le_of_ble_eq_true rfl) dX8_itemOperand_122 ⟨Nat.zero_le _, Nat.zero_le _⟩ (fun H locs hP hD hS => ?_)
        cases hM
        exact rt_v hx hb hr hlk hP hD hS rfl dX8_itemOperand_125
      · replace hM := if_f c24 hM
        refine lv_iload_n hx hb dX8_itemOperand_77 rfl (lv_at hl 6 rfl) ?_
        refine lv_if_eq (tgt := 92) hx hb dX8_itemOperand_78 (by decide) (fun c30 => ?_) (fun c30 => ?_)
        · replace hM := if_t c30 hM
          refine lv_iconst (v := 0) hx hb dX8_itemOperand_92 (by decide) ?_
          refine lv_istore (lv' := [(7, .int 0), (6, .int r22), (5, .int r18), (4, .int 1), (0, .ref (ad 100)), (1, .int a1), (2, .int a2), (3, .int a3)]) hx hb dX8_itemOperand_93 hl (by decide) rfl (fun ls hl => ?_)
          refine lv_iload hx hb dX8_itemOperand_95 (lv_at hl 0 rfl) ?_
          refine lv_if_eq (tgt := 107) hx hb dX8_itemOperand_97 (by decide) (fun c31 => ?_) (fun c31 => False.elim (by revert c31; decide))
          refine lv_aload_n hx hb dX8_itemOperand_107 rfl (lv_at hl 4 rfl) ?_
          refine lv_iconst (v := 1) hx hb dX8_itemOperand_108 (by decide) ?_
          refine lv_iload_n hx hb dX8_itemOperand_109 rfl (lv_at hl 5 rfl) ?_
          obtain ⟨r32, hcr32, hM⟩ := ob_use hM
          refine cl_V (As := [.int 1, .int a1]) (rest := []) (wM_TI cI ad o_X o_L o_N o_T o_U o_O o_E o_Q o_V r32) [] ⟨hx, hb, hml, hown, hts⟩ (c_Model_item l D cI sd ad o_C o_X o_L o_N o_T o_U o_O o_E o_Q o_V o_I 1 a1 r32 hcr32) (cwV2 hts q1512 mvX8_item rfl rfl ⟨(Nat.le_of_ble_eq_true rfl), (Nat.le_of_ble_eq_true rfl)⟩) hK hE hA hP hD hS 0 (T := TX8) (N := 48) (ci := 8) rfl rfl [0, 8, 9] rfl (by decide) rfl rfl rfl rfl rfl rfl hl.1 (Nat.le_of_ble_eq_true rfl) dX8_itemOperand_110 ⟨Nat.zero_le _, Nat.zero_le _⟩ (fun H locs hP hD hS => ?_)
          refine lv_iload hx hb dX8_itemOperand_113 (lv_at hl 0 rfl) ?_
          refine lv_if_eq (tgt := 125) hx hb dX8_itemOperand_115 (by decide) (fun c33 => ?_) (fun c33 => False.elim (by revert c33; decide))
          cases hM
          exact rt_v hx hb hr hlk hP hD hS rfl dX8_itemOperand_125
        · replace hM := if_f c30 hM
          refine lv_iload hx hb dX8_itemOperand_81 (lv_at hl 0 rfl) ?_
          refine lv_iload hx hb dX8_itemOperand_83 (lv_at hl 1 rfl) ?_
          refine lv_icmp_ne (tgt := 92) hx hb dX8_itemOperand_85 (by decide) (fun c34 => ?_) (fun c34 => ?_)
          · replace hM := if_f c34 hM
            refine lv_iconst (v := 0) hx hb dX8_itemOperand_92 (by decide) ?_
            refine lv_istore (lv' := [(7, .int 0), (6, .int r22), (5, .int r18), (4, .int 1), (0, .ref (ad 100)), (1, .int a1), (2, .int a2), (3, .int a3)]) hx hb dX8_itemOperand_93 hl (by decide) rfl (fun ls hl => ?_)
            refine lv_iload hx hb dX8_itemOperand_95 (lv_at hl 0 rfl) ?_
            refine lv_if_eq (tgt := 107) hx hb dX8_itemOperand_97 (by decide) (fun c35 => ?_) (fun c35 => False.elim (by revert c35; decide))
            refine lv_aload_n hx hb dX8_itemOperand_107 rfl (lv_at hl 4 rfl) ?_
            refine lv_iconst (v := 1) hx hb dX8_itemOperand_108 (by decide) ?_
            refine lv_iload_n hx hb dX8_itemOperand_109 rfl (lv_at hl 5 rfl) ?_
            obtain ⟨r36, hcr36, hM⟩ := ob_use hM
            refine cl_V (As := [.int 1, .int a1]) (rest := []) (wM_TI cI ad o_X o_L o_N o_T o_U o_O o_E o_Q o_V r36) [] ⟨hx, hb, hml, hown, hts⟩ (c_Model_item l D cI sd ad o_C o_X o_L o_N o_T o_U o_O o_E o_Q o_V o_I 1 a1 r36 hcr36) (cwV2 hts q1512 mvX8_item rfl rfl ⟨(Nat.le_of_ble_eq_true rfl), (Nat.le_of_ble_eq_true rfl)⟩) hK hE hA hP hD hS 0 (T := TX8) (N := 48) (ci := 8) rfl rfl [0, 8, 9] rfl (by decide) rfl rfl rfl rfl rfl rfl hl.1 (Nat.le_of_ble_eq_true rfl) dX8_itemOperand_110 ⟨Nat.zero_le _, Nat.zero_le _⟩ (fun H locs hP hD hS => ?_)
            refine lv_iload hx hb dX8_itemOperand_113 (lv_at hl 0 rfl) ?_
            refine lv_if_eq (tgt := 125) hx hb dX8_itemOperand_115 (by decide) (fun c37 => ?_) (fun c37 => False.elim (by revert c37; decide))
            cases hM
            exact rt_v hx hb hr hlk hP hD hS rfl dX8_itemOperand_125
          · replace hM := if_t c34 hM
            refine lv_iconst (v := 1) hx hb dX8_itemOperand_88 (by decide) ?_
            refine lv_goto (tgt := 93) hx hb dX8_itemOperand_89 (by decide) ?_
            refine lv_istore (lv' := [(7, .int 1), (6, .int r22), (5, .int r18), (4, .int 1), (0, .ref (ad 100)), (1, .int a1), (2, .int a2), (3, .int a3)]) hx hb dX8_itemOperand_93 hl (by decide) rfl (fun ls hl => ?_)
            refine lv_iload hx hb dX8_itemOperand_95 (lv_at hl 0 rfl) ?_
            refine lv_if_eq (tgt := 107) hx hb dX8_itemOperand_97 (by decide) (fun c38 => False.elim (by revert c38; decide)) (fun c38 => ?_)
            refine lv_aload_n hx hb dX8_itemOperand_100 rfl (lv_at hl 4 rfl) ?_
            refine lv_iconst (v := 0) hx hb dX8_itemOperand_101 (by decide) ?_
            refine lv_bipush (v := 56) hx hb dX8_itemOperand_102 (by decide) ?_
            obtain ⟨r39, hcr39, hM⟩ := ob_use hM
            refine cl_V (As := [.int 0, .int 56]) (rest := []) (wM_TI cI ad o_X o_L o_N o_T o_U o_O o_E o_Q o_V r39) [] ⟨hx, hb, hml, hown, hts⟩ (c_Model_item l D cI sd ad o_C o_X o_L o_N o_T o_U o_O o_E o_Q o_V o_I 0 56 r39 hcr39) (cwV2 hts q1512 mvX8_item rfl rfl ⟨(Nat.le_of_ble_eq_true rfl), (Nat.le_of_ble_eq_true rfl)⟩) hK hE hA hP hD hS 0 (T := TX8) (N := 48) (ci := 8) rfl rfl [0, 8, 9] rfl (by decide) rfl rfl rfl rfl rfl rfl hl.1 (Nat.le_of_ble_eq_true rfl) dX8_itemOperand_104 ⟨Nat.zero_le _, Nat.zero_le _⟩ (fun H locs hP hD hS => ?_)
            refine lv_aload_n hx hb dX8_itemOperand_107 rfl (lv_at hl 4 rfl) ?_
            refine lv_iconst (v := 1) hx hb dX8_itemOperand_108 (by decide) ?_
            refine lv_iload_n hx hb dX8_itemOperand_109 rfl (lv_at hl 5 rfl) ?_
            obtain ⟨r40, hcr40, hM⟩ := ob_use hM
            refine cl_V (As := [.int 1, .int a1]) (rest := []) (wM_TI cI ad o_X o_L o_N o_T o_U o_O o_E o_Q o_V r40) [] ⟨hx, hb, hml, hown, hts⟩ (c_Model_item l D cI sd ad o_C o_X o_L o_N o_T o_U o_O o_E o_Q o_V r39 1 a1 r40 hcr40) (cwV2 hts q1512 mvX8_item rfl rfl ⟨(Nat.le_of_ble_eq_true rfl), (Nat.le_of_ble_eq_true rfl)⟩) hK hE hA hP hD hS 0 (T := TX8) (N := 48) (ci := 8) rfl rfl [0, 8, 9] rfl (by decide) rfl rfl rfl rfl rfl rfl hl.1 (Nat.le_of_ble_eq_true rfl) dX8_itemOperand_110 ⟨Nat.zero_le _, Nat.zero_le _⟩ (fun H locs hP hD hS => ?_)
            refine lv_iload hx hb dX8_itemOperand_113 (lv_at hl 0 rfl) ?_
            refine lv_if_eq (tgt := 125) hx hb dX8_itemOperand_115 (by decide) (fun c41 => False.elim (by revert c41; decide)) (fun c41 => ?_)
            refine lv_aload_n hx hb dX8_itemOperand_118 rfl (lv_at hl 4 rfl) ?_
            refine lv_iconst (v := 0) hx hb dX8_itemOperand_119 (by decide) ?_
            refine lv_bipush (v := 55) hx hb dX8_itemOperand_120 (by decide) ?_
            obtain ⟨r42, hcr42, hM⟩ := ob_use hM
            refine cl_V (As := [.int 0, .int 55]) (rest := []) (wM_TI cI ad o_X o_L o_N o_T o_U o_O o_E o_Q o_V r42) [] ⟨hx, hb, hml, hown, hts⟩ (c_Model_item l D cI sd ad o_C o_X o_L o_N o_T o_U o_O o_E o_Q o_V r40 0 55 r42 hcr42) (cwV2 hts q1512 mvX8_item rfl rfl ⟨(Nat.le_of_ble_eq_true rfl), (Nat.le_of_ble_eq_true rfl)⟩) hK hE hA hP hD hS 0 (T := TX8) (N := 48) (ci := 8) rfl rfl [0, 8, 9] rfl (by decide) rfl rfl rfl rfl rfl rfl hl.1 (Nat.le_of_ble_eq_true rfl) dX8_itemOperand_122 ⟨Nat.zero_le _, Nat.zero_le _⟩ (fun H locs hP hD hS => ?_)
            cases hM
            exact rt_v hx hb hr hlk hP hD hS rfl dX8_itemOperand_125
    · replace hM := if_t c20 hM
      refine lv_bipush (v := 8) hx hb dX8_itemOperand_49 (by decide) ?_
      refine lv_goto (tgt := 63) hx hb dX8_itemOperand_51 (by decide) ?_
      refine lv_istore (lv' := [(6, .int 8), (5, .int r18), (4, .int 1), (0, .ref (ad 100)), (1, .int a1), (2, .int a2), (3, .int a3)]) hx hb dX8_itemOperand_63 hl (by decide) rfl (fun ls hl => ?_)
      refine lv_iload hx hb dX8_itemOperand_65 (lv_at hl 2 rfl) ?_
      refine lv_if_eq (tgt := 92) hx hb dX8_itemOperand_67 (by decide) (fun c43 => False.elim (by revert c43; decide)) (fun c43 => ?_)
      refine lv_iload hx hb dX8_itemOperand_70 (lv_at hl 0 rfl) ?_
      refine lv_iload hx hb dX8_itemOperand_72 (lv_at hl 1 rfl) ?_
      refine lv_icmp_gt (tgt := 88) hx hb dX8_itemOperand_74 (by decide) (fun c44 => ?_) (fun c44 => ?_)
      · replace hM := if_t c44 hM
        refine lv_iconst (v := 1) hx hb dX8_itemOperand_88 (by decide) ?_
        refine lv_goto (tgt := 93) hx hb dX8_itemOperand_89 (by decide) ?_
        refine lv_istore (lv' := [(7, .int 1), (6, .int 8), (5, .int r18), (4, .int 1), (0, .ref (ad 100)), (1, .int a1), (2, .int a2), (3, .int a3)]) hx hb dX8_itemOperand_93 hl (by decide) rfl (fun ls hl => ?_)
        refine lv_iload hx hb dX8_itemOperand_95 (lv_at hl 0 rfl) ?_
        refine lv_if_eq (tgt := 107) hx hb dX8_itemOperand_97 (by decide) (fun c45 => False.elim (by revert c45; decide)) (fun c45 => ?_)
        refine lv_aload_n hx hb dX8_itemOperand_100 rfl (lv_at hl 4 rfl) ?_
        refine lv_iconst (v := 0) hx hb dX8_itemOperand_101 (by decide) ?_
        refine lv_bipush (v := 56) hx hb dX8_itemOperand_102 (by decide) ?_
        obtain ⟨r46, hcr46, hM⟩ := ob_use hM
        refine cl_V (As := [.int 0, .int 56]) (rest := []) (wM_TI cI ad o_X o_L o_N o_T o_U o_O o_E o_Q o_V r46) [] ⟨hx, hb, hml, hown, hts⟩ (c_Model_item l D cI sd ad o_C o_X o_L o_N o_T o_U o_O o_E o_Q o_V o_I 0 56 r46 hcr46) (cwV2 hts q1512 mvX8_item rfl rfl ⟨(Nat.le_of_ble_eq_true rfl), (Nat.le_of_ble_eq_true rfl)⟩) hK hE hA hP hD hS 0 (T := TX8) (N := 48) (ci := 8) rfl rfl [0, 8, 9] rfl (by decide) rfl rfl rfl rfl rfl rfl hl.1 (Nat.le_of_ble_eq_true rfl) dX8_itemOperand_104 ⟨Nat.zero_le _, Nat.zero_le _⟩ (fun H locs hP hD hS => ?_)
        refine lv_aload_n hx hb dX8_itemOperand_107 rfl (lv_at hl 4 rfl) ?_
        refine lv_iconst (v := 1) hx hb dX8_itemOperand_108 (by decide) ?_
        refine lv_iload_n hx hb dX8_itemOperand_109 rfl (lv_at hl 5 rfl) ?_
        obtain ⟨r47, hcr47, hM⟩ := ob_use hM
        refine cl_V (As := [.int 1, .int a1]) (rest := []) (wM_TI cI ad o_X o_L o_N o_T o_U o_O o_E o_Q o_V r47) [] ⟨hx, hb, hml, hown, hts⟩ (c_Model_item l D cI sd ad o_C o_X o_L o_N o_T o_U o_O o_E o_Q o_V r46 1 a1 r47 hcr47) (cwV2 hts q1512 mvX8_item rfl rfl ⟨(Nat.le_of_ble_eq_true rfl), (Nat.le_of_ble_eq_true rfl)⟩) hK hE hA hP hD hS 0 (T := TX8) (N := 48) (ci := 8) rfl rfl [0, 8, 9] rfl (by decide) rfl rfl rfl rfl rfl rfl hl.1 (Nat.le_of_ble_eq_true rfl) dX8_itemOperand_110 ⟨Nat.zero_le _, Nat.zero_le _⟩ (fun H locs hP hD hS => ?_)
        refine lv_iload hx hb dX8_itemOperand_113 (lv_at hl 0 rfl) ?_
        refine lv_if_eq (tgt := 125) hx hb dX8_itemOperand_115 (by decide) (fun c48 => False.elim (by revert c48; decide)) (fun c48 => ?_)
        refine lv_aload_n hx hb dX8_itemOperand_118 rfl (lv_at hl 4 rfl) ?_
        refine lv_iconst (v := 0) hx hb dX8_itemOperand_119 (by decide) ?_
        refine lv_bipush (v := 55) hx hb dX8_itemOperand_120 (by decide) ?_
        obtain ⟨r49, hcr49, hM⟩ := ob_use hM
        refine cl_V (As := [.int 0, .int 55]) (rest := []) (wM_TI cI ad o_X o_L o_N o_T o_U o_O o_E o_Q o_V r49) [] ⟨hx, hb, hml, hown, hts⟩ (c_Model_item l D cI sd ad o_C o_X o_L o_N o_T o_U o_O o_E o_Q o_V r47 0 55 r49 hcr49) (cwV2 hts q1512 mvX8_item rfl rfl ⟨(Nat.le_of_ble_eq_true rfl), (Nat.le_of_ble_eq_true rfl)⟩) hK hE hA hP hD hS 0 (T := TX8) (N := 48) (ci := 8) rfl rfl [0, 8, 9] rfl (by decide) rfl rfl rfl rfl rfl rfl hl.1 (Nat.le_of_ble_eq_true rfl) dX8_itemOperand_122 ⟨Nat.zero_le _, Nat.zero_le _⟩ (fun H locs hP hD hS => ?_)
        cases hM
        exact rt_v hx hb hr hlk hP hD hS rfl dX8_itemOperand_125
      · replace hM := if_f c44 hM
        refine lv_iload_n hx hb dX8_itemOperand_77 rfl (lv_at hl 6 rfl) ?_
        refine lv_if_eq (tgt := 92) hx hb dX8_itemOperand_78 (by decide) (fun c50 => ?_) (fun c50 => ?_)
        · replace hM := if_t c50 hM
          refine lv_iconst (v := 0) hx hb dX8_itemOperand_92 (by decide) ?_
          refine lv_istore (lv' := [(7, .int 0), (6, .int 8), (5, .int r18), (4, .int 1), (0, .ref (ad 100)), (1, .int a1), (2, .int a2), (3, .int a3)]) hx hb dX8_itemOperand_93 hl (by decide) rfl (fun ls hl => ?_)
          refine lv_iload hx hb dX8_itemOperand_95 (lv_at hl 0 rfl) ?_
          refine lv_if_eq (tgt := 107) hx hb dX8_itemOperand_97 (by decide) (fun c51 => ?_) (fun c51 => False.elim (by revert c51; decide))
          refine lv_aload_n hx hb dX8_itemOperand_107 rfl (lv_at hl 4 rfl) ?_
          refine lv_iconst (v := 1) hx hb dX8_itemOperand_108 (by decide) ?_
          refine lv_iload_n hx hb dX8_itemOperand_109 rfl (lv_at hl 5 rfl) ?_
          obtain ⟨r52, hcr52, hM⟩ := ob_use hM
          refine cl_V (As := [.int 1, .int a1]) (rest := []) (wM_TI cI ad o_X o_L o_N o_T o_U o_O o_E o_Q o_V r52) [] ⟨hx, hb, hml, hown, hts⟩ (c_Model_item l D cI sd ad o_C o_X o_L o_N o_T o_U o_O o_E o_Q o_V o_I 1 a1 r52 hcr52) (cwV2 hts q1512 mvX8_item rfl rfl ⟨(Nat.le_of_ble_eq_true rfl), (Nat.le_of_ble_eq_true rfl)⟩) hK hE hA hP hD hS 0 (T := TX8) (N := 48) (ci := 8) rfl rfl [0, 8, 9] rfl (by decide) rfl rfl rfl rfl rfl rfl hl.1 (Nat.le_of_ble_eq_true rfl) dX8_itemOperand_110 ⟨Nat.zero_le _, Nat.zero_le _⟩ (fun H locs hP hD hS => ?_)
          refine lv_iload hx hb dX8_itemOperand_113 (lv_at hl 0 rfl) ?_
          refine lv_if_eq (tgt := 125) hx hb dX8_itemOperand_115 (by decide) (fun c53 => ?_) (fun c53 => False.elim (by revert c53; decide))
          cases hM
          exact rt_v hx hb hr hlk hP hD hS rfl dX8_itemOperand_125
        · replace hM := if_f c50 hM
          refine lv_iload hx hb dX8_itemOperand_81 (lv_at hl 0 rfl) ?_
          refine lv_iload hx hb dX8_itemOperand_83 (lv_at hl 1 rfl) ?_
          refine lv_icmp_ne (tgt := 92) hx hb dX8_itemOperand_85 (by decide) (fun c54 => ?_) (fun c54 => ?_)
          · replace hM := if_f c54 hM
            refine lv_iconst (v := 0) hx hb dX8_itemOperand_92 (by decide) ?_
            refine lv_istore (lv' := [(7, .int 0), (6, .int 8), (5, .int r18), (4, .int 1), (0, .ref (ad 100)), (1, .int a1), (2, .int a2), (3, .int a3)]) hx hb dX8_itemOperand_93 hl (by decide) rfl (fun ls hl => ?_)
            refine lv_iload hx hb dX8_itemOperand_95 (lv_at hl 0 rfl) ?_
            refine lv_if_eq (tgt := 107) hx hb dX8_itemOperand_97 (by decide) (fun c55 => ?_) (fun c55 => False.elim (by revert c55; decide))
            refine lv_aload_n hx hb dX8_itemOperand_107 rfl (lv_at hl 4 rfl) ?_
            refine lv_iconst (v := 1) hx hb dX8_itemOperand_108 (by decide) ?_
            refine lv_iload_n hx hb dX8_itemOperand_109 rfl (lv_at hl 5 rfl) ?_
            obtain ⟨r56, hcr56, hM⟩ := ob_use hM
            refine cl_V (As := [.int 1, .int a1]) (rest := []) (wM_TI cI ad o_X o_L o_N o_T o_U o_O o_E o_Q o_V r56) [] ⟨hx, hb, hml, hown, hts⟩ (c_Model_item l D cI sd ad o_C o_X o_L o_N o_T o_U o_O o_E o_Q o_V o_I 1 a1 r56 hcr56) (cwV2 hts q1512 mvX8_item rfl rfl ⟨(Nat.le_of_ble_eq_true rfl), (Nat.le_of_ble_eq_true rfl)⟩) hK hE hA hP hD hS 0 (T := TX8) (N := 48) (ci := 8) rfl rfl [0, 8, 9] rfl (by decide) rfl rfl rfl rfl rfl rfl hl.1 (Nat.le_of_ble_eq_true rfl) dX8_itemOperand_110 ⟨Nat.zero_le _, Nat.zero_le _⟩ (fun H locs hP hD hS => ?_)
            refine lv_iload hx hb dX8_itemOperand_113 (lv_at hl 0 rfl) ?_
            refine lv_if_eq (tgt := 125) hx hb dX8_itemOperand_115 (by decide) (fun c57 => ?_) (fun c57 => False.elim (by revert c57; decide))
            cases hM
            exact rt_v hx hb hr hlk hP hD hS rfl dX8_itemOperand_125
          · replace hM := if_t c54 hM
            refine lv_iconst (v := 1) hx hb dX8_itemOperand_88 (by decide) ?_
            refine lv_goto (tgt := 93) hx hb dX8_itemOperand_89 (by decide) ?_
            refine lv_istore (lv' := [(7, .int 1), (6, .int 8), (5, .int r18), (4, .int 1), (0, .ref (ad 100)), (1, .int a1), (2, .int a2), (3, .int a3)]) hx hb dX8_itemOperand_93 hl (by decide) rfl (fun ls hl => ?_)
            refine lv_iload hx hb dX8_itemOperand_95 (lv_at hl 0 rfl) ?_
            refine lv_if_eq (tgt := 107) hx hb dX8_itemOperand_97 (by decide) (fun c58 => False.elim (by revert c58; decide)) (fun c58 => ?_)
            refine lv_aload_n hx hb dX8_itemOperand_100 rfl (lv_at hl 4 rfl) ?_
            refine lv_iconst (v := 0) hx hb dX8_itemOperand_101 (by decide) ?_
            refine lv_bipush (v := 56) hx hb dX8_itemOperand_102 (by decide) ?_
            obtain ⟨r59, hcr59, hM⟩ := ob_use hM
            refine cl_V (As := [.int 0, .int 56]) (rest := []) (wM_TI cI ad o_X o_L o_N o_T o_U o_O o_E o_Q o_V r59) [] ⟨hx, hb, hml, hown, hts⟩ (c_Model_item l D cI sd ad o_C o_X o_L o_N o_T o_U o_O o_E o_Q o_V o_I 0 56 r59 hcr59) (cwV2 hts q1512 mvX8_item rfl rfl ⟨(Nat.le_of_ble_eq_true rfl), (Nat.le_of_ble_eq_true rfl)⟩) hK hE hA hP hD hS 0 (T := TX8) (N := 48) (ci := 8) rfl rfl [0, 8, 9] rfl (by decide) rfl rfl rfl rfl rfl rfl hl.1 (Nat.le_of_ble_eq_true rfl) dX8_itemOperand_104 ⟨Nat.zero_le _, Nat.zero_le _⟩ (fun H locs hP hD hS => ?_)
            refine lv_aload_n hx hb dX8_itemOperand_107 rfl (lv_at hl 4 rfl) ?_
            refine lv_iconst (v := 1) hx hb dX8_itemOperand_108 (by decide) ?_
            refine lv_iload_n hx hb dX8_itemOperand_109 rfl (lv_at hl 5 rfl) ?_
            obtain ⟨r60, hcr60, hM⟩ := ob_use hM
            refine cl_V (As := [.int 1, .int a1]) (rest := []) (wM_TI cI ad o_X o_L o_N o_T o_U o_O o_E o_Q o_V r60) [] ⟨hx, hb, hml, hown, hts⟩ (c_Model_item l D cI sd ad o_C o_X o_L o_N o_T o_U o_O o_E o_Q o_V r59 1 a1 r60 hcr60) (cwV2 hts q1512 mvX8_item rfl rfl ⟨(Nat.le_of_ble_eq_true rfl), (Nat.le_of_ble_eq_true rfl)⟩) hK hE hA hP hD hS 0 (T := TX8) (N := 48) (ci := 8) rfl rfl [0, 8, 9] rfl (by decide) rfl rfl rfl rfl rfl rfl hl.1 (Nat.le_of_ble_eq_true rfl) dX8_itemOperand_110 ⟨Nat.zero_le _, Nat.zero_le _⟩ (fun H locs hP hD hS => ?_)
            refine lv_iload hx hb dX8_itemOperand_113 (lv_at hl 0 rfl) ?_
            refine lv_if_eq (tgt := 125) hx hb dX8_itemOperand_115 (by decide) (fun c61 => False.elim (by revert c61; decide)) (fun c61 => ?_)
            refine lv_aload_n hx hb dX8_itemOperand_118 rfl (lv_at hl 4 rfl) ?_
            refine lv_iconst (v := 0) hx hb dX8_itemOperand_119 (by decide) ?_
            refine lv_bipush (v := 55) hx hb dX8_itemOperand_120 (by decide) ?_
            obtain ⟨r62, hcr62, hM⟩ := ob_use hM
            refine cl_V (As := [.int 0, .int 55]) (rest := []) (wM_TI cI ad o_X o_L o_N o_T o_U o_O o_E o_Q o_V r62) [] ⟨hx, hb, hml, hown, hts⟩ (c_Model_item l D cI sd ad o_C o_X o_L o_N o_T o_U o_O o_E o_Q o_V r60 0 55 r62 hcr62) (cwV2 hts q1512 mvX8_item rfl rfl ⟨(Nat.le_of_ble_eq_true rfl), (Nat.le_of_ble_eq_true rfl)⟩) hK hE hA hP hD hS 0 (T := TX8) (N := 48) (ci := 8) rfl rfl [0, 8, 9] rfl (by decide) rfl rfl rfl rfl rfl rfl hl.1 (Nat.le_of_ble_eq_true rfl) dX8_itemOperand_122 ⟨Nat.zero_le _, Nat.zero_le _⟩ (fun H locs hP hD hS => ?_)
            cases hM
            exact rt_v hx hb hr hlk hP hD hS rfl dX8_itemOperand_125

set_option maxHeartbeats 4000000 in
set_option maxRecDepth 100000 in
theorem c_Model_tokenOf (l : Launch) (D : va_G) (cI : ClassId) (sd : Nat → Nat) (ad : Nat → Nat) (a1 : Int32) (res : Int32) (hM : f_Model_tokenOf a1 = some res) : Ctr l D cI sd yX8_tokenOf (wsM yX8_tokenOf cX8_tokenOf 1 (Option.some Jvm.ClassFile.FieldType.int)) { frames := 0, cells := 0, slots := 0, locals := 0 } [.int a1] (([] : va_W)) (([] : va_W)) (some (.int res)) := by
  refine Ctr.of (cc := cX8_tokenOf) (maxL := 1) (own := RX8) (by decide +kernel) rfl rfl (Nat.le_of_ble_eq_true rfl) ?_
  intro p e s m below meth c A ls hx hb hr hml hown hts hlk hK hE hA hP hD hS hl
  have hl : lv_has ls 1 [(0, .int a1)] := hl
  unfold f_Model_tokenOf at hM
  refine lv_iload_n hx hb dX8_tokenOf_0 rfl (lv_at hl 0 rfl) ?_
  by_cases c1 : a1 = 0
  · replace hM := if_t c1 hM
    refine lv_tableIn (tgt := 68) hx hb dX8_tokenOf_1 (by rw [c1]; decide) (by rw [c1]; decide) (by rw [c1]; rfl) (by decide) ?_
    refine lv_bipush (v := 30) hx hb dX8_tokenOf_68 (by decide) ?_
    cases hM
    exact rt_i hx hb hr hlk hP hD hS rfl dX8_tokenOf_70
  replace hM := if_f c1 hM
  by_cases c2 : a1 = 1
  · replace hM := if_t c2 hM
    refine lv_tableIn (tgt := 71) hx hb dX8_tokenOf_1 (by rw [c2]; decide) (by rw [c2]; decide) (by rw [c2]; rfl) (by decide) ?_
    refine lv_bipush (v := 31) hx hb dX8_tokenOf_71 (by decide) ?_
    cases hM
    exact rt_i hx hb hr hlk hP hD hS rfl dX8_tokenOf_73
  replace hM := if_f c2 hM
  by_cases c3 : a1 = 2
  · replace hM := if_t c3 hM
    refine lv_tableIn (tgt := 74) hx hb dX8_tokenOf_1 (by rw [c3]; decide) (by rw [c3]; decide) (by rw [c3]; rfl) (by decide) ?_
    refine lv_bipush (v := 70) hx hb dX8_tokenOf_74 (by decide) ?_
    cases hM
    exact rt_i hx hb hr hlk hP hD hS rfl dX8_tokenOf_76
  replace hM := if_f c3 hM
  by_cases c4 : a1 = 3
  · replace hM := if_t c4 hM
    refine lv_tableIn (tgt := 77) hx hb dX8_tokenOf_1 (by rw [c4]; decide) (by rw [c4]; decide) (by rw [c4]; rfl) (by decide) ?_
    refine lv_bipush (v := 67) hx hb dX8_tokenOf_77 (by decide) ?_
    cases hM
    exact rt_i hx hb hr hlk hP hD hS rfl dX8_tokenOf_79
  replace hM := if_f c4 hM
  by_cases c5 : a1 = 4
  · replace hM := if_t c5 hM
    refine lv_tableIn (tgt := 80) hx hb dX8_tokenOf_1 (by rw [c5]; decide) (by rw [c5]; decide) (by rw [c5]; rfl) (by decide) ?_
    refine lv_bipush (v := 54) hx hb dX8_tokenOf_80 (by decide) ?_
    cases hM
    exact rt_i hx hb hr hlk hP hD hS rfl dX8_tokenOf_82
  replace hM := if_f c5 hM
  by_cases c6 : a1 = 5
  · replace hM := if_t c6 hM
    refine lv_tableIn (tgt := 83) hx hb dX8_tokenOf_1 (by rw [c6]; decide) (by rw [c6]; decide) (by rw [c6]; rfl) (by decide) ?_
    refine lv_bipush (v := 68) hx hb dX8_tokenOf_83 (by decide) ?_
    cases hM
    exact rt_i hx hb hr hlk hP hD hS rfl dX8_tokenOf_85
  replace hM := if_f c6 hM
  by_cases c7 : a1 = 6
  · replace hM := if_t c7 hM
    refine lv_tableIn (tgt := 86) hx hb dX8_tokenOf_1 (by rw [c7]; decide) (by rw [c7]; decide) (by rw [c7]; rfl) (by decide) ?_
    refine lv_bipush (v := 69) hx hb dX8_tokenOf_86 (by decide) ?_
    cases hM
    exact rt_i hx hb hr hlk hP hD hS rfl dX8_tokenOf_88
  replace hM := if_f c7 hM
  by_cases c8 : a1 = 7
  · replace hM := if_t c8 hM
    refine lv_tableIn (tgt := 89) hx hb dX8_tokenOf_1 (by rw [c8]; decide) (by rw [c8]; decide) (by rw [c8]; rfl) (by decide) ?_
    refine lv_bipush (v := 52) hx hb dX8_tokenOf_89 (by decide) ?_
    cases hM
    exact rt_i hx hb hr hlk hP hD hS rfl dX8_tokenOf_91
  replace hM := if_f c8 hM
  by_cases c9 : a1 = 8
  · replace hM := if_t c9 hM
    refine lv_tableIn (tgt := 92) hx hb dX8_tokenOf_1 (by rw [c9]; decide) (by rw [c9]; decide) (by rw [c9]; rfl) (by decide) ?_
    refine lv_bipush (v := 53) hx hb dX8_tokenOf_92 (by decide) ?_
    cases hM
    exact rt_i hx hb hr hlk hP hD hS rfl dX8_tokenOf_94
  replace hM := if_f c9 hM
  by_cases c10 : a1 = 9
  · replace hM := if_t c10 hM
    refine lv_tableIn (tgt := 95) hx hb dX8_tokenOf_1 (by rw [c10]; decide) (by rw [c10]; decide) (by rw [c10]; rfl) (by decide) ?_
    refine lv_bipush (v := 63) hx hb dX8_tokenOf_95 (by decide) ?_
    cases hM
    exact rt_i hx hb hr hlk hP hD hS rfl dX8_tokenOf_97
  replace hM := if_f c10 hM
  by_cases c11 : a1 = 10
  · replace hM := if_t c11 hM
    refine lv_tableIn (tgt := 98) hx hb dX8_tokenOf_1 (by rw [c11]; decide) (by rw [c11]; decide) (by rw [c11]; rfl) (by decide) ?_
    refine lv_bipush (v := 64) hx hb dX8_tokenOf_98 (by decide) ?_
    cases hM
    exact rt_i hx hb hr hlk hP hD hS rfl dX8_tokenOf_100
  replace hM := if_f c11 hM
  by_cases c12 : a1 = 11
  · replace hM := if_t c12 hM
    refine lv_tableIn (tgt := 101) hx hb dX8_tokenOf_1 (by rw [c12]; decide) (by rw [c12]; decide) (by rw [c12]; rfl) (by decide) ?_
    refine lv_bipush (v := 65) hx hb dX8_tokenOf_101 (by decide) ?_
    cases hM
    exact rt_i hx hb hr hlk hP hD hS rfl dX8_tokenOf_103
  replace hM := if_f c12 hM
  by_cases c13 : a1 = 12
  · replace hM := if_t c13 hM
    refine lv_tableIn (tgt := 104) hx hb dX8_tokenOf_1 (by rw [c13]; decide) (by rw [c13]; decide) (by rw [c13]; rfl) (by decide) ?_
    refine lv_bipush (v := 66) hx hb dX8_tokenOf_104 (by decide) ?_
    cases hM
    exact rt_i hx hb hr hlk hP hD hS rfl dX8_tokenOf_106
  replace hM := if_f c13 hM
  refine lv_tableOut (tgt := 107) hx hb dX8_tokenOf_1 (by have := lv_neT c1 (show (0 : Int32).toInt = 0 by decide); have := lv_neT c2 (show (1 : Int32).toInt = 1 by decide); have := lv_neT c3 (show (2 : Int32).toInt = 2 by decide); have := lv_neT c4 (show (3 : Int32).toInt = 3 by decide); have := lv_neT c5 (show (4 : Int32).toInt = 4 by decide); have := lv_neT c6 (show (5 : Int32).toInt = 5 by decide); have := lv_neT c7 (show (6 : Int32).toInt = 6 by decide); have := lv_neT c8 (show (7 : Int32).toInt = 7 by decide); have := lv_neT c9 (show (8 : Int32).toInt = 8 by decide); have := lv_neT c10 (show (9 : Int32).toInt = 9 by decide); have := lv_neT c11 (show (10 : Int32).toInt = 10 by decide); have := lv_neT c12 (show (11 : Int32).toInt = 11 by decide); have := lv_neT c13 (show (12 : Int32).toInt = 12 by decide); omega) (by decide) ?_
  refine lv_bipush (v := 33) hx hb dX8_tokenOf_107 (by decide) ?_
  cases hM
  exact rt_i hx hb hr hlk hP hD hS rfl dX8_tokenOf_109

set_option maxHeartbeats 4000000 in
set_option maxRecDepth 100000 in
theorem c_Model_itemBlock (l : Launch) (D : va_G) (cI : ClassId) (sd : Nat → Nat) (ad : Nat → Nat) (o_C : S_MC) (o_X : S_MX) (o_L : S_ML) (o_N : S_MN) (o_U : S_MU) (o_O : S_MO) (o_E : S_ME) (o_Q : S_MQ) (o_V : S_MV) (o_T : S_MT) (o_I : S_MI) (a1 : Int32) (a2 : Int32) (a3 : Int32) (res : S_MI) (hM : f_Model_itemBlock o_T o_I a1 a2 a3 = some res) : Ctr l D cI sd yX8_itemBlock (wsM yX8_itemBlock cX8_itemBlock 4 (Option.none : Option Jvm.ClassFile.FieldType)) { frames := 1, cells := 0, slots := 0, locals := 22 } [.ref (ad 100), .int a1, .int a2, .int a3] (wM_TI cI ad o_X o_L o_N o_T o_U o_O o_E o_Q o_V o_I) (wM_TI cI ad o_X o_L o_N o_T o_U o_O o_E o_Q o_V res) none := by
  refine Ctr.of (cc := cX8_itemBlock) (maxL := 4) (own := RX8) (by decide +kernel) rfl rfl (Nat.le_of_ble_eq_true rfl) ?_
  intro p e s m below meth c A ls hx hb hr hml hown hts hlk hK hE hA hP hD hS hl
  have hl : lv_has ls 4 [(0, .ref (ad 100)), (1, .int a1), (2, .int a2), (3, .int a3)] := hl
  unfold f_Model_itemBlock at hM
  refine lv_aload_n hx hb dX8_itemBlock_0 rfl (lv_at hl 0 rfl) ?_
  refine lv_iconst (v := 0) hx hb dX8_itemBlock_1 (by decide) ?_
  refine lv_iload_n hx hb dX8_itemBlock_2 rfl (lv_at hl 3 rfl) ?_
  obtain ⟨r1, hcr1, hM⟩ := ob_use hM
  refine cl_V (As := [.int 0, .int a3]) (rest := []) (wM_TI cI ad o_X o_L o_N o_T o_U o_O o_E o_Q o_V r1) [] ⟨hx, hb, hml, hown, hts⟩ (c_Model_item l D cI sd ad o_C o_X o_L o_N o_T o_U o_O o_E o_Q o_V o_I 0 a3 r1 hcr1) (cwV2 hts q1512 mvX8_item rfl rfl ⟨(Nat.le_of_ble_eq_true rfl), (Nat.le_of_ble_eq_true rfl)⟩) hK hE hA hP hD hS 0 (T := TX8) (N := 48) (ci := 8) rfl rfl [0, 8, 9] rfl (by decide) rfl rfl rfl rfl rfl rfl hl.1 (Nat.le_of_ble_eq_true rfl) dX8_itemBlock_3 ⟨Nat.zero_le _, Nat.zero_le _⟩ (fun H locs hP hD hS => ?_)
  refine lv_aload_n hx hb dX8_itemBlock_6 rfl (lv_at hl 0 rfl) ?_
  refine va_get (D := D) (ci := 8) (v := .ref (ad 108)) (C := RX8) (T := TX8) (N := 48) hx hb hts layX8 hown hK hP 0 rfl rfl 17 (by decide) (hts _ (inA q995)) (fun _ h9 => h9) rfl dX8_itemBlock_7 ?_
  refine lv_iload_n hx hb dX8_itemBlock_10 rfl (lv_at hl 1 rfl) ?_
  obtain ⟨b2, hM⟩ := gd_use hM
  refine va_iald hx hb hK hP 1 0 rfl rfl b2 dX8_itemBlock_11 ?_
  refine lv_iconst (v := 1) hx hb dX8_itemBlock_12 (by decide) ?_
  refine lv_icmp_ne (tgt := 47) hx hb dX8_itemBlock_13 (by decide) (fun c3 => ?_) (fun c3 => ?_)
  · replace hM := if_f c3 hM
    refine lv_aload_n hx hb dX8_itemBlock_47 rfl (lv_at hl 0 rfl) ?_
    refine lv_iconst (v := 2) hx hb dX8_itemBlock_48 (by decide) ?_
    refine lv_aload_n hx hb dX8_itemBlock_49 rfl (lv_at hl 0 rfl) ?_
    refine va_get (D := D) (ci := 8) (v := .ref (ad 112)) (C := RX8) (T := TX8) (N := 48) hx hb hts layX8 hown hK hP 0 rfl rfl 21 (by decide) (hts _ (inA q999)) (fun _ h9 => h9) rfl dX8_itemBlock_50 ?_
    refine lv_iload_n hx hb dX8_itemBlock_53 rfl (lv_at hl 1 rfl) ?_
    obtain ⟨b4, hM⟩ := gd_use hM
    refine va_iald hx hb hK hP 5 0 rfl rfl b4 dX8_itemBlock_54 ?_
    obtain ⟨r5, hcr5, hM⟩ := ob_use hM
    refine cl_V (As := [.int 2, .int (o_T.2.2.2.2.2.2.1 a1.toNatClampNeg)]) (rest := []) (wM_TI cI ad o_X o_L o_N o_T o_U o_O o_E o_Q o_V r5) [] ⟨hx, hb, hml, hown, hts⟩ (c_Model_item l D cI sd ad o_C o_X o_L o_N o_T o_U o_O o_E o_Q o_V r1 2 (o_T.2.2.2.2.2.2.1 a1.toNatClampNeg) r5 hcr5) (cwV2 hts q1512 mvX8_item rfl rfl ⟨(Nat.le_of_ble_eq_true rfl), (Nat.le_of_ble_eq_true rfl)⟩) hK hE hA hP hD hS 0 (T := TX8) (N := 48) (ci := 8) rfl rfl [0, 8, 9] rfl (by decide) rfl rfl rfl rfl rfl rfl hl.1 (Nat.le_of_ble_eq_true rfl) dX8_itemBlock_55 ⟨Nat.zero_le _, Nat.zero_le _⟩ (fun H locs hP hD hS => ?_)
    refine lv_aload_n hx hb dX8_itemBlock_58 rfl (lv_at hl 0 rfl) ?_
    refine lv_bipush (v := 8) hx hb dX8_itemBlock_59 (by decide) ?_
    refine lv_aload_n hx hb dX8_itemBlock_61 rfl (lv_at hl 0 rfl) ?_
    refine va_get (D := D) (ci := 8) (v := .ref (ad 110)) (C := RX8) (T := TX8) (N := 48) hx hb hts layX8 hown hK hP 0 rfl rfl 19 (by decide) (hts _ (inA q997)) (fun _ h9 => h9) rfl dX8_itemBlock_62 ?_
    refine lv_iload_n hx hb dX8_itemBlock_65 rfl (lv_at hl 1 rfl) ?_
    obtain ⟨b6, hM⟩ := gd_use hM
    refine va_iald hx hb hK hP 3 0 rfl rfl b6 dX8_itemBlock_66 ?_
    obtain ⟨r7, hcr7, hM⟩ := ob_use hM
    refine cl_V (As := [.int 8, .int (o_T.2.2.2.2.1 a1.toNatClampNeg)]) (rest := []) (wM_TI cI ad o_X o_L o_N o_T o_U o_O o_E o_Q o_V r7) [] ⟨hx, hb, hml, hown, hts⟩ (c_Model_item l D cI sd ad o_C o_X o_L o_N o_T o_U o_O o_E o_Q o_V r5 8 (o_T.2.2.2.2.1 a1.toNatClampNeg) r7 hcr7) (cwV2 hts q1512 mvX8_item rfl rfl ⟨(Nat.le_of_ble_eq_true rfl), (Nat.le_of_ble_eq_true rfl)⟩) hK hE hA hP hD hS 0 (T := TX8) (N := 48) (ci := 8) rfl rfl [0, 8, 9] rfl (by decide) rfl rfl rfl rfl rfl rfl hl.1 (Nat.le_of_ble_eq_true rfl) dX8_itemBlock_67 ⟨Nat.zero_le _, Nat.zero_le _⟩ (fun H locs hP hD hS => ?_)
    refine lv_aload_n hx hb dX8_itemBlock_70 rfl (lv_at hl 0 rfl) ?_
    refine lv_iconst (v := 0) hx hb dX8_itemBlock_71 (by decide) ?_
    refine lv_iload_n hx hb dX8_itemBlock_72 rfl (lv_at hl 2 rfl) ?_
    obtain ⟨r8, hcr8, hM⟩ := ob_use hM
    refine cl_V (As := [.int 0, .int a2]) (rest := []) (wM_TI cI ad o_X o_L o_N o_T o_U o_O o_E o_Q o_V r8) [] ⟨hx, hb, hml, hown, hts⟩ (c_Model_item l D cI sd ad o_C o_X o_L o_N o_T o_U o_O o_E o_Q o_V r7 0 a2 r8 hcr8) (cwV2 hts q1512 mvX8_item rfl rfl ⟨(Nat.le_of_ble_eq_true rfl), (Nat.le_of_ble_eq_true rfl)⟩) hK hE hA hP hD hS 0 (T := TX8) (N := 48) (ci := 8) rfl rfl [0, 8, 9] rfl (by decide) rfl rfl rfl rfl rfl rfl hl.1 (Nat.le_of_ble_eq_true rfl) dX8_itemBlock_73 ⟨Nat.zero_le _, Nat.zero_le _⟩ (fun H locs hP hD hS => ?_)
    cases hM
    exact rt_v hx hb hr hlk hP hD hS rfl dX8_itemBlock_76
  · replace hM := if_t c3 hM
    refine lv_aload_n hx hb dX8_itemBlock_16 rfl (lv_at hl 0 rfl) ?_
    refine lv_iconst (v := 2) hx hb dX8_itemBlock_17 (by decide) ?_
    refine lv_aload_n hx hb dX8_itemBlock_18 rfl (lv_at hl 0 rfl) ?_
    refine lv_iload_n hx hb dX8_itemBlock_19 rfl (lv_at hl 1 rfl) ?_
    obtain ⟨r9, hcr9, hM⟩ := ob_use hM
    refine cl_V (As := [.int a1]) (rest := [.int 2, .ref (ad 100)]) (wM_TI cI ad o_X o_L o_N o_T o_U o_O o_E o_Q o_V r1) (.int r9 :: [.int 2, .ref (ad 100)]) ⟨hx, hb, hml, hown, hts⟩ (c_Model_second l D cI sd ad o_C o_X o_L o_N o_U o_O o_E o_Q o_V r1 o_T a1 r9 hcr9) (cwV2 hts q1555 mvX8_second rfl rfl ⟨(Nat.le_of_ble_eq_true rfl), (Nat.le_of_ble_eq_true rfl)⟩) hK hE hA hP hD hS 0 (T := TX8) (N := 48) (ci := 8) rfl rfl [0, 1, 2, 3, 4, 5, 6, 7] rfl (by decide) (mrgE rfl rfl) rfl rfl rfl rfl rfl hl.1 (Nat.le_of_ble_eq_true rfl) dX8_itemBlock_20 ⟨Nat.zero_le _, Nat.zero_le _⟩ (fun H locs hP hD hS => ?_)
    obtain ⟨r10, hcr10, hM⟩ := ob_use hM
    refine cl_V (As := [.int 2, .int r9]) (rest := []) (wM_TI cI ad o_X o_L o_N o_T o_U o_O o_E o_Q o_V r10) [] ⟨hx, hb, hml, hown, hts⟩ (c_Model_item l D cI sd ad o_C o_X o_L o_N o_T o_U o_O o_E o_Q o_V r1 2 r9 r10 hcr10) (cwV2 hts q1512 mvX8_item rfl rfl ⟨(Nat.le_of_ble_eq_true rfl), (Nat.le_of_ble_eq_true rfl)⟩) hK hE hA hP hD hS 0 (T := TX8) (N := 48) (ci := 8) rfl rfl [0, 8, 9] rfl (by decide) rfl rfl rfl rfl rfl rfl hl.1 (Nat.le_of_ble_eq_true rfl) dX8_itemBlock_23 ⟨Nat.zero_le _, Nat.zero_le _⟩ (fun H locs hP hD hS => ?_)
    refine lv_aload_n hx hb dX8_itemBlock_26 rfl (lv_at hl 0 rfl) ?_
    refine lv_iconst (v := 1) hx hb dX8_itemBlock_27 (by decide) ?_
    refine lv_aload_n hx hb dX8_itemBlock_28 rfl (lv_at hl 0 rfl) ?_
    refine va_get (D := D) (ci := 8) (v := .ref (ad 112)) (C := RX8) (T := TX8) (N := 48) hx hb hts layX8 hown hK hP 0 rfl rfl 21 (by decide) (hts _ (inA q999)) (fun _ h9 => h9) rfl dX8_itemBlock_29 ?_
    refine lv_iload_n hx hb dX8_itemBlock_32 rfl (lv_at hl 1 rfl) ?_
    obtain ⟨b11, hM⟩ := gd_use hM
    refine va_iald hx hb hK hP 5 0 rfl rfl b11 dX8_itemBlock_33 ?_
    obtain ⟨r12, hcr12, hM⟩ := ob_use hM
    refine cl_V (As := [.int 1, .int (o_T.2.2.2.2.2.2.1 a1.toNatClampNeg)]) (rest := []) (wM_TI cI ad o_X o_L o_N o_T o_U o_O o_E o_Q o_V r12) [] ⟨hx, hb, hml, hown, hts⟩ (c_Model_item l D cI sd ad o_C o_X o_L o_N o_T o_U o_O o_E o_Q o_V r10 1 (o_T.2.2.2.2.2.2.1 a1.toNatClampNeg) r12 hcr12) (cwV2 hts q1512 mvX8_item rfl rfl ⟨(Nat.le_of_ble_eq_true rfl), (Nat.le_of_ble_eq_true rfl)⟩) hK hE hA hP hD hS 0 (T := TX8) (N := 48) (ci := 8) rfl rfl [0, 8, 9] rfl (by decide) rfl rfl rfl rfl rfl rfl hl.1 (Nat.le_of_ble_eq_true rfl) dX8_itemBlock_34 ⟨Nat.zero_le _, Nat.zero_le _⟩ (fun H locs hP hD hS => ?_)
    refine lv_aload_n hx hb dX8_itemBlock_37 rfl (lv_at hl 0 rfl) ?_
    refine lv_iconst (v := 0) hx hb dX8_itemBlock_38 (by decide) ?_
    refine lv_bipush (v := 61) hx hb dX8_itemBlock_39 (by decide) ?_
    obtain ⟨r13, hcr13, hM⟩ := ob_use hM
    refine cl_V (As := [.int 0, .int 61]) (rest := []) (wM_TI cI ad o_X o_L o_N o_T o_U o_O o_E o_Q o_V r13) [] ⟨hx, hb, hml, hown, hts⟩ (c_Model_item l D cI sd ad o_C o_X o_L o_N o_T o_U o_O o_E o_Q o_V r12 0 61 r13 hcr13) (cwV2 hts q1512 mvX8_item rfl rfl ⟨(Nat.le_of_ble_eq_true rfl), (Nat.le_of_ble_eq_true rfl)⟩) hK hE hA hP hD hS 0 (T := TX8) (N := 48) (ci := 8) rfl rfl [0, 8, 9] rfl (by decide) rfl rfl rfl rfl rfl rfl hl.1 (Nat.le_of_ble_eq_true rfl) dX8_itemBlock_41 ⟨Nat.zero_le _, Nat.zero_le _⟩ (fun H locs hP hD hS => ?_)
    refine lv_goto (tgt := 58) hx hb dX8_itemBlock_44 (by decide) ?_
    refine lv_aload_n hx hb dX8_itemBlock_58 rfl (lv_at hl 0 rfl) ?_
    refine lv_bipush (v := 8) hx hb dX8_itemBlock_59 (by decide) ?_
    refine lv_aload_n hx hb dX8_itemBlock_61 rfl (lv_at hl 0 rfl) ?_
    refine va_get (D := D) (ci := 8) (v := .ref (ad 110)) (C := RX8) (T := TX8) (N := 48) hx hb hts layX8 hown hK hP 0 rfl rfl 19 (by decide) (hts _ (inA q997)) (fun _ h9 => h9) rfl dX8_itemBlock_62 ?_
    refine lv_iload_n hx hb dX8_itemBlock_65 rfl (lv_at hl 1 rfl) ?_
    obtain ⟨b14, hM⟩ := gd_use hM
    refine va_iald hx hb hK hP 3 0 rfl rfl b14 dX8_itemBlock_66 ?_
    obtain ⟨r15, hcr15, hM⟩ := ob_use hM
    refine cl_V (As := [.int 8, .int (o_T.2.2.2.2.1 a1.toNatClampNeg)]) (rest := []) (wM_TI cI ad o_X o_L o_N o_T o_U o_O o_E o_Q o_V r15) [] ⟨hx, hb, hml, hown, hts⟩ (c_Model_item l D cI sd ad o_C o_X o_L o_N o_T o_U o_O o_E o_Q o_V r13 8 (o_T.2.2.2.2.1 a1.toNatClampNeg) r15 hcr15) (cwV2 hts q1512 mvX8_item rfl rfl ⟨(Nat.le_of_ble_eq_true rfl), (Nat.le_of_ble_eq_true rfl)⟩) hK hE hA hP hD hS 0 (T := TX8) (N := 48) (ci := 8) rfl rfl [0, 8, 9] rfl (by decide) rfl rfl rfl rfl rfl rfl hl.1 (Nat.le_of_ble_eq_true rfl) dX8_itemBlock_67 ⟨Nat.zero_le _, Nat.zero_le _⟩ (fun H locs hP hD hS => ?_)
    refine lv_aload_n hx hb dX8_itemBlock_70 rfl (lv_at hl 0 rfl) ?_
    refine lv_iconst (v := 0) hx hb dX8_itemBlock_71 (by decide) ?_
    refine lv_iload_n hx hb dX8_itemBlock_72 rfl (lv_at hl 2 rfl) ?_
    obtain ⟨r16, hcr16, hM⟩ := ob_use hM
    refine cl_V (As := [.int 0, .int a2]) (rest := []) (wM_TI cI ad o_X o_L o_N o_T o_U o_O o_E o_Q o_V r16) [] ⟨hx, hb, hml, hown, hts⟩ (c_Model_item l D cI sd ad o_C o_X o_L o_N o_T o_U o_O o_E o_Q o_V r15 0 a2 r16 hcr16) (cwV2 hts q1512 mvX8_item rfl rfl ⟨(Nat.le_of_ble_eq_true rfl), (Nat.le_of_ble_eq_true rfl)⟩) hK hE hA hP hD hS 0 (T := TX8) (N := 48) (ci := 8) rfl rfl [0, 8, 9] rfl (by decide) rfl rfl rfl rfl rfl rfl hl.1 (Nat.le_of_ble_eq_true rfl) dX8_itemBlock_73 ⟨Nat.zero_le _, Nat.zero_le _⟩ (fun H locs hP hD hS => ?_)
    cases hM
    exact rt_v hx hb hr hlk hP hD hS rfl dX8_itemBlock_76

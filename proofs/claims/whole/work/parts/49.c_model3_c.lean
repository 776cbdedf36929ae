set_option maxHeartbeats 4000000 in
set_option maxRecDepth 100000 in
theorem c_Model_isCell (l : Launch) (D : va_G) (cI : ClassId) (sd : Nat → Nat) (ad : Nat → Nat) (o_C : S_MC) (o_X : S_MX) (o_N : S_MN) (o_T : S_MT) (o_U : S_MU) (o_O : S_MO) (o_E : S_ME) (o_Q : S_MQ) (o_V : S_MV) (o_I : S_MI) (o_L : S_ML) (res : Int32) (hM : f_Model_isCell o_L = some res) : Ctr l D cI sd yX8_isCell (wsM yX8_isCell cX8_isCell 1 (Option.some Jvm.ClassFile.FieldType.boolean)) { frames := 0, cells := 0, slots := 0, locals := 0 } [.ref (ad 100)] (wM_L cI ad o_X o_L o_N o_T o_U o_O o_E o_Q o_V o_I) (wM_L cI ad o_X o_L o_N o_T o_U o_O o_E o_Q o_V o_I) (some (.int res)) := by
  refine Ctr.of (cc := cX8_isCell) (maxL := 1) (own := RX8) (by decide +kernel) rfl rfl (Nat.le_of_ble_eq_true rfl) ?_
  intro p e s m below meth c A ls hx hb hr hml hown hts hlk hK hE hA hP hD hS hl
  have hl : lv_has ls 1 [(0, .ref (ad 100))] := hl
  unfold f_Model_isCell at hM
  refine lv_aload_n hx hb dX8_isCell_0 rfl (lv_at hl 0 rfl) ?_
  refine va_get (D := D) (ci := 8) (v := .int o_L.2.1) (C := RX8) (T := TX8) (N := 48) hx hb hts layX8 hown hK hP 0 rfl rfl 7 (by decide) (hts _ (inA q985)) (fun _ h9 => h9) rfl dX8_isCell_1 ?_
  refine lv_bipush (v := 66) hx hb dX8_isCell_4 (by decide) ?_
  refine lv_icmp_eq (tgt := 63) hx hb dX8_isCell_6 (by decide) (fun c1 => ?_) (fun c1 => ?_)
  · replace hM := if_t c1 hM
    refine lv_iconst (v := 1) hx hb dX8_isCell_63 (by decide) ?_
    refine lv_goto (tgt := 68) hx hb dX8_isCell_64 (by decide) ?_
    cases hM
    exact rt_z hx hb hr hlk (by decide) hP hD hS rfl dX8_isCell_68
  · replace hM := if_f c1 hM
    refine lv_aload_n hx hb dX8_isCell_9 rfl (lv_at hl 0 rfl) ?_
    refine va_get (D := D) (ci := 8) (v := .int o_L.2.1) (C := RX8) (T := TX8) (N := 48) hx hb hts layX8 hown hK hP 0 rfl rfl 7 (by decide) (hts _ (inA q985)) (fun _ h9 => h9) rfl dX8_isCell_10 ?_
    refine lv_bipush (v := 69) hx hb dX8_isCell_13 (by decide) ?_
    refine lv_icmp_eq (tgt := 63) hx hb dX8_isCell_15 (by decide) (fun c2 => ?_) (fun c2 => ?_)
    · replace hM := if_t c2 hM
      refine lv_iconst (v := 1) hx hb dX8_isCell_63 (by decide) ?_
      refine lv_goto (tgt := 68) hx hb dX8_isCell_64 (by decide) ?_
      cases hM
      exact rt_z hx hb hr hlk (by decide) hP hD hS rfl dX8_isCell_68
    · replace hM := if_f c2 hM
      refine lv_aload_n hx hb dX8_isCell_18 rfl (lv_at hl 0 rfl) ?_
      refine va_get (D := D) (ci := 8) (v := .int o_L.2.1) (C := RX8) (T := TX8) (N := 48) hx hb hts layX8 hown hK hP 0 rfl rfl 7 (by decide) (hts _ (inA q985)) (fun _ h9 => h9) rfl dX8_isCell_19 ?_
      refine lv_bipush (v := 68) hx hb dX8_isCell_22 (by decide) ?_
      refine lv_icmp_eq (tgt := 63) hx hb dX8_isCell_24 (by decide) (fun c3 => ?_) (fun c3 => ?_)
      · replace hM := if_t c3 hM
        refine lv_iconst (v := 1) hx hb dX8_isCell_63 (by decide) ?_
        refine lv_goto (tgt := 68) hx hb dX8_isCell_64 (by decide) ?_
        cases hM
        exact rt_z hx hb hr hlk (by decide) hP hD hS rfl dX8_isCell_68
      · replace hM := if_f c3 hM
        refine lv_aload_n hx hb dX8_isCell_27 rfl (lv_at hl 0 rfl) ?_
        refine va_get (D := D) (ci := 8) (v := .int o_L.2.1) (C := RX8) (T := TX8) (N := 48) hx hb hts layX8 hown hK hP 0 rfl rfl 7 (by decide) (hts _ (inA q985)) (fun _ h9 => h9) rfl dX8_isCell_28 ?_
        refine lv_bipush (v := 80) hx hb dX8_isCell_31 (by decide) ?_
        refine lv_icmp_eq (tgt := 63) hx hb dX8_isCell_33 (by decide) (fun c4 => ?_) (fun c4 => ?_)
        · replace hM := if_t c4 hM
          refine lv_iconst (v := 1) hx hb dX8_isCell_63 (by decide) ?_
          refine lv_goto (tgt := 68) hx hb dX8_isCell_64 (by decide) ?_
          cases hM
          exact rt_z hx hb hr hlk (by decide) hP hD hS rfl dX8_isCell_68
        · replace hM := if_f c4 hM
          refine lv_aload_n hx hb dX8_isCell_36 rfl (lv_at hl 0 rfl) ?_
          refine va_get (D := D) (ci := 8) (v := .int o_L.2.1) (C := RX8) (T := TX8) (N := 48) hx hb hts layX8 hown hK hP 0 rfl rfl 7 (by decide) (hts _ (inA q985)) (fun _ h9 => h9) rfl dX8_isCell_37 ?_
          refine lv_bipush (v := 64) hx hb dX8_isCell_40 (by decide) ?_
          refine lv_icmp_eq (tgt := 63) hx hb dX8_isCell_42 (by decide) (fun c5 => ?_) (fun c5 => ?_)
          · replace hM := if_t c5 hM
            refine lv_iconst (v := 1) hx hb dX8_isCell_63 (by decide) ?_
            refine lv_goto (tgt := 68) hx hb dX8_isCell_64 (by decide) ?_
            cases hM
            exact rt_z hx hb hr hlk (by decide) hP hD hS rfl dX8_isCell_68
          · replace hM := if_f c5 hM
            refine lv_aload_n hx hb dX8_isCell_45 rfl (lv_at hl 0 rfl) ?_
            refine va_get (D := D) (ci := 8) (v := .int o_L.2.1) (C := RX8) (T := TX8) (N := 48) hx hb hts layX8 hown hK hP 0 rfl rfl 7 (by decide) (hts _ (inA q985)) (fun _ h9 => h9) rfl dX8_isCell_46 ?_
            refine lv_bipush (v := 65) hx hb dX8_isCell_49 (by decide) ?_
            refine lv_icmp_eq (tgt := 63) hx hb dX8_isCell_51 (by decide) (fun c6 => ?_) (fun c6 => ?_)
            · replace hM := if_t c6 hM
              refine lv_iconst (v := 1) hx hb dX8_isCell_63 (by decide) ?_
              refine lv_goto (tgt := 68) hx hb dX8_isCell_64 (by decide) ?_
              cases hM
              exact rt_z hx hb hr hlk (by decide) hP hD hS rfl dX8_isCell_68
            · replace hM := if_f c6 hM
              refine lv_aload_n hx hb dX8_isCell_54 rfl (lv_at hl 0 rfl) ?_
              refine va_get (D := D) (ci := 8) (v := .int o_L.2.1) (C := RX8) (T := TX8) (N := 48) hx hb hts layX8 hown hK hP 0 rfl rfl 7 (by decide) (hts _ (inA q985)) (fun _ h9 => h9) rfl dX8_isCell_55 ?_
              refine lv_bipush (v := 55) hx hb dX8_isCell_58 (by decide) ?_
              refine lv_icmp_ne (tgt := 67) hx hb dX8_isCell_60 (by decide) (fun c7 => ?_) (fun c7 => ?_)
              · replace hM := if_f c7 hM
                refine lv_iconst (v := 0) hx hb dX8_isCell_67 (by decide) ?_
                cases hM
                exact rt_z hx hb hr hlk (by decide) hP hD hS rfl dX8_isCell_68
              · replace hM := if_t c7 hM
                refine lv_iconst (v := 1) hx hb dX8_isCell_63 (by decide) ?_
                refine lv_goto (tgt := 68) hx hb dX8_isCell_64 (by decide) ?_
                cases hM
                exact rt_z hx hb hr hlk (by decide) hP hD hS rfl dX8_isCell_68

set_option maxHeartbeats 4000000 in
set_option maxRecDepth 100000 in
theorem c_Model_blocks (l : Launch) (D : va_G) (cI : ClassId) (sd : Nat → Nat) (ad : Nat → Nat) (o_O : S_MO) (o_E : S_ME) (o_Q : S_MQ) (o_V : S_MV) (o_I : S_MI) (o_C : S_MC) (o_X : S_MX) (o_L : S_ML) (o_N : S_MN) (o_T : S_MT) (o_U : S_MU) (res : S_ML × S_MN × S_MT × S_MU) (hM : f_Model_blocks o_C o_X o_L o_N o_T o_U = some res) : Ctr l D cI sd yX8_blocks (wsM yX8_blocks cX8_blocks 2 (Option.none : Option Jvm.ClassFile.FieldType)) { frames := 5, cells := 0, slots := 0, locals := 112 } [.ref (ad 100)] (wM_CXLNTU cI ad o_X o_L o_N o_T o_U o_O o_E o_Q o_V o_I o_C) (wM_CXLNTU cI ad o_X res.1 res.2.1 res.2.2.1 res.2.2.2 o_O o_E o_Q o_V o_I o_C) none := by
  refine Ctr.of (cc := cX8_blocks) (maxL := 2) (own := RX8) (by decide +kernel) rfl rfl (Nat.le_of_ble_eq_true rfl) ?_
  intro p e s m below meth c A ls hx hb hr hml hown hts hlk hK hE hA hP hD hS hl
  have hl : lv_has ls 2 [(0, .ref (ad 100))] := hl
  unfold f_Model_blocks at hM
  refine lv_aload_n hx hb dX8_blocks_0 rfl (lv_at hl 0 rfl) ?_
  refine va_get (D := D) (ci := 8) (v := .int o_L.2.1) (C := RX8) (T := TX8) (N := 48) hx hb hts layX8 hown hK hP 0 rfl rfl 7 (by decide) (hts _ (inA q985)) (fun _ h9 => h9) rfl dX8_blocks_1 ?_
  refine lv_if_ne (tgt := 11) hx hb dX8_blocks_4 (by decide) (fun c1 => ?_) (fun c1 => ?_)
  · replace hM := if_f c1 hM
    refine lv_aload_n hx hb dX8_blocks_11 rfl (lv_at hl 0 rfl) ?_
    refine va_get (D := D) (ci := 8) (v := .int o_L.2.1) (C := RX8) (T := TX8) (N := 48) hx hb hts layX8 hown hK hP 0 rfl rfl 7 (by decide) (hts _ (inA q985)) (fun _ h9 => h9) rfl dX8_blocks_12 ?_
    refine lv_iconst (v := 2) hx hb dX8_blocks_15 (by decide) ?_
    refine lv_icmp_ne (tgt := 23) hx hb dX8_blocks_16 (by decide) (fun c2 => ?_) (fun c2 => ?_)
    · replace hM := if_f c2 hM
      refine lv_aload_n hx hb dX8_blocks_23 rfl (lv_at hl 0 rfl) ?_
      refine va_get (D := D) (ci := 8) (v := .int o_L.2.1) (C := RX8) (T := TX8) (N := 48) hx hb hts layX8 hown hK hP 0 rfl rfl 7 (by decide) (hts _ (inA q985)) (fun _ h9 => h9) rfl dX8_blocks_24 ?_
      refine lv_iconst (v := 4) hx hb dX8_blocks_27 (by decide) ?_
      refine lv_icmp_ne (tgt := 35) hx hb dX8_blocks_28 (by decide) (fun c3 => ?_) (fun c3 => ?_)
      · replace hM := if_f c3 hM
        refine lv_iconst (v := 0) hx hb dX8_blocks_35 (by decide) ?_
        refine lv_istore_n (lv' := [(1, .int 0), (0, .ref (ad 100))]) hx hb dX8_blocks_36 rfl hl (by decide) rfl (fun ls hl => ?_)
        refine lv_iload_n hx hb dX8_blocks_37 rfl (lv_at hl 0 rfl) ?_
        refine lv_if_ne (tgt := 55) hx hb dX8_blocks_38 (by decide) (fun c4 => False.elim (by revert c4; decide)) (fun c4 => ?_)
        refine lv_aload_n hx hb dX8_blocks_41 rfl (lv_at hl 1 rfl) ?_
        refine va_get (D := D) (ci := 8) (v := .int o_L.2.1) (C := RX8) (T := TX8) (N := 48) hx hb hts layX8 hown hK hP 0 rfl rfl 7 (by decide) (hts _ (inA q985)) (fun _ h9 => h9) rfl dX8_blocks_42 ?_
        refine lv_bipush (v := 83) hx hb dX8_blocks_45 (by decide) ?_
        refine lv_icmp_eq (tgt := 54) hx hb dX8_blocks_47 (by decide) (fun c5 => ?_) (fun c5 => ?_)
        · replace hM := if_t c5 hM
          cases hM
          exact rt_v hx hb hr hlk hP hD hS rfl dX8_blocks_54
        · replace hM := if_f c5 hM
          refine lv_aload_n hx hb dX8_blocks_50 rfl (lv_at hl 1 rfl) ?_
          obtain ⟨r6, hcr6, hM⟩ := ob_use hM
          refine cl_V (As := []) (rest := []) (wM_CXLNTU cI ad o_X r6 o_N o_T o_U o_O o_E o_Q o_V o_I o_C) [] ⟨hx, hb, hml, hown, hts⟩ (c_Model_wrong l D cI sd ad o_C o_X o_N o_T o_U o_O o_E o_Q o_V o_I o_L r6 hcr6) (cwV2 hts q1233 mvX8_wrong rfl rfl ⟨(Nat.le_of_ble_eq_true rfl), (Nat.le_of_ble_eq_true rfl)⟩) hK hE hA hP hD hS 0 (T := TX8) (N := 48) (ci := 8) rfl rfl [0] rfl (by decide) rfl rfl rfl rfl rfl rfl hl.1 (Nat.le_of_ble_eq_true rfl) dX8_blocks_51 ⟨Nat.zero_le _, Nat.zero_le _⟩ (fun H locs hP hD hS => ?_)
          cases hM
          exact rt_v hx hb hr hlk hP hD hS rfl dX8_blocks_54
      · replace hM := if_t c3 hM
        refine lv_iconst (v := 3) hx hb dX8_blocks_31 (by decide) ?_
        refine lv_goto (tgt := 36) hx hb dX8_blocks_32 (by decide) ?_
        refine lv_istore_n (lv' := [(1, .int 3), (0, .ref (ad 100))]) hx hb dX8_blocks_36 rfl hl (by decide) rfl (fun ls hl => ?_)
        refine lv_iload_n hx hb dX8_blocks_37 rfl (lv_at hl 0 rfl) ?_
        refine lv_if_ne (tgt := 55) hx hb dX8_blocks_38 (by decide) (fun c7 => ?_) (fun c7 => False.elim (by revert c7; decide))
        refine lv_aload_n hx hb dX8_blocks_55 rfl (lv_at hl 1 rfl) ?_
        refine lv_iload_n hx hb dX8_blocks_56 rfl (lv_at hl 0 rfl) ?_
        refine lv_aload_n hx hb dX8_blocks_57 rfl (lv_at hl 1 rfl) ?_
        refine va_get (D := D) (ci := 8) (v := .int o_L.1) (C := RX8) (T := TX8) (N := 48) hx hb hts layX8 hown hK hP 0 rfl rfl 6 (by decide) (hts _ (inA q984)) (fun _ h9 => h9) rfl dX8_blocks_58 ?_
        refine lv_iconst (v := 0) hx hb dX8_blocks_61 (by decide) ?_
        obtain ⟨r8, hcr8, hM⟩ := ob_use hM
        refine cl_V (As := [.int 3, .int o_L.1, .int 0]) (rest := []) (wM_CXLNTU cI ad o_X o_L o_N r8 o_U o_O o_E o_Q o_V o_I o_C) [] ⟨hx, hb, hml, hown, hts⟩ (c_Model_down l D cI sd ad o_C o_X o_L o_N o_U o_O o_E o_Q o_V o_I o_T 3 o_L.1 0 r8 hcr8) (cwV2 hts q1245 mvX8_down rfl rfl ⟨(Nat.le_of_ble_eq_true rfl), (Nat.le_of_ble_eq_true rfl)⟩) hK hE hA hP hD hS 0 (T := TX8) (N := 48) (ci := 8) rfl rfl [0, 8, 9, 10, 11, 12, 13, 14] rfl (by decide) (mrgE rfl rfl) rfl rfl rfl rfl rfl hl.1 (Nat.le_of_ble_eq_true rfl) dX8_blocks_62 ⟨Nat.zero_le _, Nat.zero_le _⟩ (fun H locs hP hD hS => ?_)
        refine lv_aload_n hx hb dX8_blocks_65 rfl (lv_at hl 1 rfl) ?_
        refine lv_bipush (v := 100) hx hb dX8_blocks_66 (by decide) ?_
        obtain ⟨r9, hcr9, hM⟩ := ob_use hM
        refine cl_V (As := [.int 100]) (rest := []) (wM_CXLNTU cI ad o_X o_L o_N r8 r9 o_O o_E o_Q o_V o_I o_C) [] ⟨hx, hb, hml, hown, hts⟩ (c_Model_push l D cI sd ad o_C o_X o_L o_N r8 o_O o_E o_Q o_V o_I o_U 100 r9 hcr9) (cwV2 hts q1147 mvX8_push rfl rfl ⟨(Nat.le_of_ble_eq_true rfl), (Nat.le_of_ble_eq_true rfl)⟩) hK hE hA hP hD hS 0 (T := TX8) (N := 48) (ci := 8) rfl rfl [0, 15] rfl (by decide) rfl rfl rfl rfl rfl rfl hl.1 (Nat.le_of_ble_eq_true rfl) dX8_blocks_68 ⟨Nat.zero_le _, Nat.zero_le _⟩ (fun H locs hP hD hS => ?_)
        refine lv_aload_n hx hb dX8_blocks_71 rfl (lv_at hl 1 rfl) ?_
        refine lv_bipush (v := 101) hx hb dX8_blocks_72 (by decide) ?_
        refine lv_iload_n hx hb dX8_blocks_74 rfl (lv_at hl 0 rfl) ?_
        refine lv_iconst (v := 1) hx hb dX8_blocks_75 (by decide) ?_
        refine lv_icmp_ne (tgt := 83) hx hb dX8_blocks_76 (by decide) (fun c10 => ?_) (fun c10 => False.elim (by revert c10; decide))
        refine lv_iload_n hx hb dX8_blocks_83 rfl (lv_at hl 0 rfl) ?_
        refine lv_iconst (v := 2) hx hb dX8_blocks_84 (by decide) ?_
        refine lv_icmp_ne (tgt := 92) hx hb dX8_blocks_85 (by decide) (fun c11 => ?_) (fun c11 => False.elim (by revert c11; decide))
        refine lv_iconst (v := 5) hx hb dX8_blocks_92 (by decide) ?_
        refine lv_bipush (v := 102) hx hb dX8_blocks_93 (by decide) ?_
        refine lv_bipush (v := 103) hx hb dX8_blocks_95 (by decide) ?_
        obtain ⟨r12, hcr12, hM⟩ := ob_use hM
        refine cl_V (As := [.int 101, .int 5, .int 102, .int 103]) (rest := []) (wM_CXLNTU cI ad o_X o_L o_N r8 r12 o_O o_E o_Q o_V o_I o_C) [] ⟨hx, hb, hml, hown, hts⟩ (c_Model_push4 l D cI sd ad o_C o_X o_L o_N r8 o_O o_E o_Q o_V o_I r9 101 5 102 103 r12 hcr12) (cwV2 hts q1253 mvX8_push4 rfl rfl ⟨(Nat.le_of_ble_eq_true rfl), (Nat.le_of_ble_eq_true rfl)⟩) hK hE hA hP hD hS 0 (T := TX8) (N := 48) (ci := 8) rfl rfl [0, 15] rfl (by decide) rfl rfl rfl rfl rfl rfl hl.1 (Nat.le_of_ble_eq_true rfl) dX8_blocks_97 ⟨Nat.zero_le _, Nat.zero_le _⟩ (fun H locs hP hD hS => ?_)
        refine lv_iload_n hx hb dX8_blocks_100 rfl (lv_at hl 0 rfl) ?_
        refine lv_iconst (v := 1) hx hb dX8_blocks_101 (by decide) ?_
        refine lv_icmp_ne (tgt := 113) hx hb dX8_blocks_102 (by decide) (fun c13 => ?_) (fun c13 => False.elim (by revert c13; decide))
        refine lv_aload_n hx hb dX8_blocks_113 rfl (lv_at hl 1 rfl) ?_
        refine lv_bipush (v := 105) hx hb dX8_blocks_114 (by decide) ?_
        obtain ⟨r14, hcr14, hM⟩ := ob_use hM
        refine cl_V (As := [.int 105]) (rest := []) (wM_CXLNTU cI ad o_X o_L o_N r8 r14 o_O o_E o_Q o_V o_I o_C) [] ⟨hx, hb, hml, hown, hts⟩ (c_Model_push l D cI sd ad o_C o_X o_L o_N r8 o_O o_E o_Q o_V o_I r12 105 r14 hcr14) (cwV2 hts q1147 mvX8_push rfl rfl ⟨(Nat.le_of_ble_eq_true rfl), (Nat.le_of_ble_eq_true rfl)⟩) hK hE hA hP hD hS 0 (T := TX8) (N := 48) (ci := 8) rfl rfl [0, 15] rfl (by decide) rfl rfl rfl rfl rfl rfl hl.1 (Nat.le_of_ble_eq_true rfl) dX8_blocks_116 ⟨Nat.zero_le _, Nat.zero_le _⟩ (fun H locs hP hD hS => ?_)
        refine lv_aload_n hx hb dX8_blocks_119 rfl (lv_at hl 1 rfl) ?_
        obtain ⟨r15, hcr15, hM⟩ := ob_use hM
        refine cl_V (As := []) (rest := []) (wM_CXLNTU cI ad o_X r15.1 r15.2 r8 r14 o_O o_E o_Q o_V o_I o_C) [] ⟨hx, hb, hml, hown, hts⟩ (c_Model_step l D cI sd ad r8 r14 o_O o_E o_Q o_V o_I o_C o_X o_L o_N r15 hcr15) (cwV2 hts q1151 mvX8_step rfl rfl ⟨(Nat.le_of_ble_eq_true rfl), (Nat.le_of_ble_eq_true rfl)⟩) hK hE hA hP hD hS 0 (T := TX8) (N := 48) (ci := 8) rfl rfl [0, 1, 2, 3, 4, 5, 6, 7] rfl (by decide) (mrgE rfl rfl) rfl rfl rfl rfl rfl hl.1 (Nat.le_of_ble_eq_true rfl) dX8_blocks_120 ⟨Nat.zero_le _, Nat.zero_le _⟩ (fun H locs hP hD hS => ?_)
        cases hM
        exact rt_v hx hb hr hlk hP hD hS rfl dX8_blocks_123
    · replace hM := if_t c2 hM
      refine lv_iconst (v := 2) hx hb dX8_blocks_19 (by decide) ?_
      refine lv_goto (tgt := 36) hx hb dX8_blocks_20 (by decide) ?_
      refine lv_istore_n (lv' := [(1, .int 2), (0, .ref (ad 100))]) hx hb dX8_blocks_36 rfl hl (by decide) rfl (fun ls hl => ?_)
      refine lv_iload_n hx hb dX8_blocks_37 rfl (lv_at hl 0 rfl) ?_
      refine lv_if_ne (tgt := 55) hx hb dX8_blocks_38 (by decide) (fun c16 => ?_) (fun c16 => False.elim (by revert c16; decide))
      refine lv_aload_n hx hb dX8_blocks_55 rfl (lv_at hl 1 rfl) ?_
      refine lv_iload_n hx hb dX8_blocks_56 rfl (lv_at hl 0 rfl) ?_
      refine lv_aload_n hx hb dX8_blocks_57 rfl (lv_at hl 1 rfl) ?_
      refine va_get (D := D) (ci := 8) (v := .int o_L.1) (C := RX8) (T := TX8) (N := 48) hx hb hts layX8 hown hK hP 0 rfl rfl 6 (by decide) (hts _ (inA q984)) (fun _ h9 => h9) rfl dX8_blocks_58 ?_
      refine lv_iconst (v := 0) hx hb dX8_blocks_61 (by decide) ?_
      obtain ⟨r17, hcr17, hM⟩ := ob_use hM
      refine cl_V (As := [.int 2, .int o_L.1, .int 0]) (rest := []) (wM_CXLNTU cI ad o_X o_L o_N r17 o_U o_O o_E o_Q o_V o_I o_C) [] ⟨hx, hb, hml, hown, hts⟩ (c_Model_down l D cI sd ad o_C o_X o_L o_N o_U o_O o_E o_Q o_V o_I o_T 2 o_L.1 0 r17 hcr17) (cwV2 hts q1245 mvX8_down rfl rfl ⟨(Nat.le_of_ble_eq_true rfl), (Nat.le_of_ble_eq_true rfl)⟩) hK hE hA hP hD hS 0 (T := TX8) (N := 48) (ci := 8) rfl rfl [0, 8, 9, 10, 11, 12, 13, 14] rfl (by decide) (mrgE rfl rfl) rfl rfl rfl rfl rfl hl.1 (Nat.le_of_ble_eq_true rfl) dX8_blocks_62 ⟨Nat.zero_le _, Nat.zero_le _⟩ (fun H locs hP hD hS => ?_)
      refine lv_aload_n hx hb dX8_blocks_65 rfl (lv_at hl 1 rfl) ?_
      refine lv_bipush (v := 100) hx hb dX8_blocks_66 (by decide) ?_
      obtain ⟨r18, hcr18, hM⟩ := ob_use hM
      refine cl_V (As := [.int 100]) (rest := []) (wM_CXLNTU cI ad o_X o_L o_N r17 r18 o_O o_E o_Q o_V o_I o_C) [] ⟨hx, hb, hml, hown, hts⟩ (c_Model_push l D cI sd ad o_C o_X o_L o_N r17 o_O o_E o_Q o_V o_I o_U 100 r18 hcr18) (cwV2 hts q1147 mvX8_push rfl rfl ⟨(Nat.le_of_ble_eq_true rfl), (Nat.le_of_ble_eq_true rfl)⟩) hK hE hA hP hD hS 0 (T := TX8) (N := 48) (ci := 8) rfl rfl [0, 15] rfl (by decide) rfl rfl rfl rfl rfl rfl hl.1 (Nat.le_of_ble_eq_true rfl) dX8_blocks_68 ⟨Nat.zero_le _, Nat.zero_le _⟩ (fun H locs hP hD hS => ?_)
      refine lv_aload_n hx hb dX8_blocks_71 rfl (lv_at hl 1 rfl) ?_
      refine lv_bipush (v := 101) hx hb dX8_blocks_72 (by decide) ?_
      refine lv_iload_n hx hb dX8_blocks_74 rfl (lv_at hl 0 rfl) ?_
      refine lv_iconst (v := 1) hx hb dX8_blocks_75 (by decide) ?_
      refine lv_icmp_ne (tgt := 83) hx hb dX8_blocks_76 (by decide) (fun c19 => ?_) (fun c19 => False.elim (by revert c19; decide))
      refine lv_iload_n hx hb dX8_blocks_83 rfl (lv_at hl 0 rfl) ?_
      refine lv_iconst (v := 2) hx hb dX8_blocks_84 (by decide) ?_
      refine lv_icmp_ne (tgt := 92) hx hb dX8_blocks_85 (by decide) (fun c20 => False.elim (by revert c20; decide)) (fun c20 => ?_)
      refine lv_iconst (v := 3) hx hb dX8_blocks_88 (by decide) ?_
      refine lv_goto (tgt := 93) hx hb dX8_blocks_89 (by decide) ?_
      refine lv_bipush (v := 102) hx hb dX8_blocks_93 (by decide) ?_
      refine lv_bipush (v := 103) hx hb dX8_blocks_95 (by decide) ?_
      obtain ⟨r21, hcr21, hM⟩ := ob_use hM
      refine cl_V (As := [.int 101, .int 3, .int 102, .int 103]) (rest := []) (wM_CXLNTU cI ad o_X o_L o_N r17 r21 o_O o_E o_Q o_V o_I o_C) [] ⟨hx, hb, hml, hown, hts⟩ (c_Model_push4 l D cI sd ad o_C o_X o_L o_N r17 o_O o_E o_Q o_V o_I r18 101 3 102 103 r21 hcr21) (cwV2 hts q1253 mvX8_push4 rfl rfl ⟨(Nat.le_of_ble_eq_true rfl), (Nat.le_of_ble_eq_true rfl)⟩) hK hE hA hP hD hS 0 (T := TX8) (N := 48) (ci := 8) rfl rfl [0, 15] rfl (by decide) rfl rfl rfl rfl rfl rfl hl.1 (Nat.le_of_ble_eq_true rfl) dX8_blocks_97 ⟨Nat.zero_le _, Nat.zero_le _⟩ (fun H locs hP hD hS => ?_)
      refine lv_iload_n hx hb dX8_blocks_100 rfl (lv_at hl 0 rfl) ?_
      refine lv_iconst (v := 1) hx hb dX8_blocks_101 (by decide) ?_
      refine lv_icmp_ne (tgt := 113) hx hb dX8_blocks_102 (by decide) (fun c22 => ?_) (fun c22 => False.elim (by revert c22; decide))
      refine lv_aload_n hx hb dX8_blocks_113 rfl (lv_at hl 1 rfl) ?_
      refine lv_bipush (v := 105) hx hb dX8_blocks_114 (by decide) ?_
      obtain ⟨r23, hcr23, hM⟩ := ob_use hM
      refine cl_V (As := [.int 105]) (rest := []) (wM_CXLNTU cI ad o_X o_L o_N r17 r23 o_O o_E o_Q o_V o_I o_C) [] ⟨hx, hb, hml, hown, hts⟩ (c_Model_push l D cI sd ad o_C o_X o_L o_N r17 o_O o_E o_Q o_V o_I r21 105 r23 hcr23) (cwV2 hts q1147 mvX8_push rfl rfl ⟨(Nat.le_of_ble_eq_true rfl), (Nat.le_of_ble_eq_true rfl)⟩) hK hE hA hP hD hS 0 (T := TX8) (N := 48) (ci := 8) rfl rfl [0, 15] rfl (by decide) rfl rfl rfl rfl rfl rfl hl.1 (Nat.le_of_ble_eq_true rfl) dX8_blocks_116 ⟨Nat.zero_le _, Nat.zero_le _⟩ (fun H locs hP hD hS => ?_)
      refine lv_aload_n hx hb dX8_blocks_119 rfl (lv_at hl 1 rfl) ?_
      obtain ⟨r24, hcr24, hM⟩ := ob_use hM
      refine cl_V (As := []) (rest := []) (wM_CXLNTU cI ad o_X r24.1 r24.2 r17 r23 o_O o_E o_Q o_V o_I o_C) [] ⟨hx, hb, hml, hown, hts⟩ (c_Model_step l D cI sd ad r17 r23 o_O o_E o_Q o_V o_I o_C o_X o_L o_N r24 hcr24) (cwV2 hts q1151 mvX8_step rfl rfl ⟨(Nat.le_of_ble_eq_true rfl), (Nat.le_of_ble_eq_true rfl)⟩) hK hE hA hP hD hS 0 (T := TX8) (N := 48) (ci := 8) rfl rfl [0, 1, 2, 3, 4, 5, 6, 7] rfl (by decide) (mrgE rfl rfl) rfl rfl rfl rfl rfl hl.1 (Nat.le_of_ble_eq_true rfl) dX8_blocks_120 ⟨Nat.zero_le _, Nat.zero_le _⟩ (fun H locs hP hD hS => ?_)
      cases hM
      exact rt_v hx hb hr hlk hP hD hS rfl dX8_blocks_123
  · replace hM := if_t c1 hM
    refine lv_iconst (v := 1) hx hb dX8_blocks_7 (by decide) ?_
    refine lv_goto (tgt := 36) hx hb dX8_blocks_8 (by decide) ?_
    refine lv_istore_n (lv' := [(1, .int 1), (0, .ref (ad 100))]) hx hb dX8_blocks_36 rfl hl (by decide) rfl (fun ls hl => ?_)
    refine lv_iload_n hx hb dX8_blocks_37 rfl (lv_at hl 0 rfl) ?_
    refine lv_if_ne (tgt := 55) hx hb dX8_blocks_38 (by decide) (fun c25 => ?_) (fun c25 => False.elim (by revert c25; decide))
    refine lv_aload_n hx hb dX8_blocks_55 rfl (lv_at hl 1 rfl) ?_
    refine lv_iload_n hx hb dX8_blocks_56 rfl (lv_at hl 0 rfl) ?_
    refine lv_aload_n hx hb dX8_blocks_57 rfl (lv_at hl 1 rfl) ?_
    refine va_get (D := D) (ci := 8) (v := .int o_L.1) (C := RX8) (T := TX8) (N := 48) hx hb hts layX8 hown hK hP 0 rfl rfl 6 (by decide) (hts _ (inA q984)) (fun _ h9 => h9) rfl dX8_blocks_58 ?_
    refine lv_iconst (v := 0) hx hb dX8_blocks_61 (by decide) ?_
    obtain ⟨r26, hcr26, hM⟩ := ob_use hM
    refine cl_V (As := [.int 1, .int o_L.1, .int 0]) (rest := []) (wM_CXLNTU cI ad o_X o_L o_N r26 o_U o_O o_E o_Q o_V o_I o_C) [] ⟨hx, hb, hml, hown, hts⟩ (c_Model_down l D cI sd ad o_C o_X o_L o_N o_U o_O o_E o_Q o_V o_I o_T 1 o_L.1 0 r26 hcr26) (cwV2 hts q1245 mvX8_down rfl rfl ⟨(Nat.le_of_ble_eq_true rfl), (Nat.le_of_ble_eq_true rfl)⟩) hK hE hA hP hD hS 0 (T := TX8) (N := 48) (ci := 8) rfl rfl [0, 8, 9, 10, 11, 12, 13, 14] rfl (by decide) (mrgE rfl rfl) rfl rfl rfl rfl rfl hl.1 (Nat.le_of_ble_eq_true rfl) dX8_blocks_62 ⟨Nat.zero_le _, Nat.zero_le _⟩ (fun H locs hP hD hS => ?_)
    refine lv_aload_n hx hb dX8_blocks_65 rfl (lv_at hl 1 rfl) ?_
    refine lv_bipush (v := 100) hx hb dX8_blocks_66 (by decide) ?_
    obtain ⟨r27, hcr27, hM⟩ := ob_use hM
    refine cl_V (As := [.int 100]) (rest := []) (wM_CXLNTU cI ad o_X o_L o_N r26 r27 o_O o_E o_Q o_V o_I o_C) [] ⟨hx, hb, hml, hown, hts⟩ (c_Model_push l D cI sd ad o_C o_X o_L o_N r26 o_O o_E o_Q o_V o_I o_U 100 r27 hcr27) (cwV2 hts q1147 mvX8_push rfl rfl ⟨(Nat.le_of_ble_eq_true rfl), (Nat.le_of_ble_eq_true rfl)⟩) hK hE hA hP hD hS 0 (T := TX8) (N := 48) (ci := 8) rfl rfl [0, 15] rfl (by decide) rfl rfl rfl rfl rfl rfl hl.1 (Nat.le_of_ble_eq_true rfl) dX8_blocks_68 ⟨Nat.zero_le _, Nat.zero_le _⟩ (fun H locs hP hD hS => ?_)
    refine lv_aload_n hx hb dX8_blocks_71 rfl (lv_at hl 1 rfl) ?_
    refine lv_bipush (v := 101) hx hb dX8_blocks_72 (by decide) ?_
    refine lv_iload_n hx hb dX8_blocks_74 rfl (lv_at hl 0 rfl) ?_
    refine lv_iconst (v := 1) hx hb dX8_blocks_75 (by decide) ?_
    refine lv_icmp_ne (tgt := 83) hx hb dX8_blocks_76 (by decide) (fun c28 => False.elim (by revert c28; decide)) (fun c28 => ?_)
    refine lv_iconst (v := 1) hx hb dX8_blocks_79 (by decide) ?_
    refine lv_goto (tgt := 93) hx hb dX8_blocks_80 (by decide) ?_
    refine lv_bipush (v := 102) hx hb dX8_blocks_93 (by decide) ?_
    refine lv_bipush (v := 103) hx hb dX8_blocks_95 (by decide) ?_
    obtain ⟨r29, hcr29, hM⟩ := ob_use hM
    refine cl_V (As := [.int 101, .int 1, .int 102, .int 103]) (rest := []) (wM_CXLNTU cI ad o_X o_L o_N r26 r29 o_O o_E o_Q o_V o_I o_C) [] ⟨hx, hb, hml, hown, hts⟩ (c_Model_push4 l D cI sd ad o_C o_X o_L o_N r26 o_O o_E o_Q o_V o_I r27 101 1 102 103 r29 hcr29) (cwV2 hts q1253 mvX8_push4 rfl rfl ⟨(Nat.le_of_ble_eq_true rfl), (Nat.le_of_ble_eq_true rfl)⟩) hK hE hA hP hD hS 0 (T := TX8) (N := 48) (ci := 8) rfl rfl [0, 15] rfl (by decide) rfl rfl rfl rfl rfl rfl hl.1 (Nat.le_of_ble_eq_true rfl) dX8_blocks_97 ⟨Nat.zero_le _, Nat.zero_le _⟩ (fun H locs hP hD hS => ?_)
    refine lv_iload_n hx hb dX8_blocks_100 rfl (lv_at hl 0 rfl) ?_
    refine lv_iconst (v := 1) hx hb dX8_blocks_101 (by decide) ?_
    refine lv_icmp_ne (tgt := 113) hx hb dX8_blocks_102 (by decide) (fun c30 => False.elim (by revert c30; decide)) (fun c30 => ?_)
    refine lv_aload_n hx hb dX8_blocks_105 rfl (lv_at hl 1 rfl) ?_
    refine lv_bipush (v := 104) hx hb dX8_blocks_106 (by decide) ?_
    refine lv_bipush (v := 61) hx hb dX8_blocks_108 (by decide) ?_
    obtain ⟨r31, hcr31, hM⟩ := ob_use hM
    refine cl_V (As := [.int 104, .int 61]) (rest := []) (wM_CXLNTU cI ad o_X o_L o_N r26 r31 o_O o_E o_Q o_V o_I o_C) [] ⟨hx, hb, hml, hown, hts⟩ (c_Model_push2 l D cI sd ad o_C o_X o_L o_N r26 o_O o_E o_Q o_V o_I r29 104 61 r31 hcr31) (cwV2 hts q1257 mvX8_push2 rfl rfl ⟨(Nat.le_of_ble_eq_true rfl), (Nat.le_of_ble_eq_true rfl)⟩) hK hE hA hP hD hS 0 (T := TX8) (N := 48) (ci := 8) rfl rfl [0, 15] rfl (by decide) rfl rfl rfl rfl rfl rfl hl.1 (Nat.le_of_ble_eq_true rfl) dX8_blocks_110 ⟨Nat.zero_le _, Nat.zero_le _⟩ (fun H locs hP hD hS => ?_)
    refine lv_aload_n hx hb dX8_blocks_113 rfl (lv_at hl 1 rfl) ?_
    refine lv_bipush (v := 105) hx hb dX8_blocks_114 (by decide) ?_
    obtain ⟨r32, hcr32, hM⟩ := ob_use hM
    refine cl_V (As := [.int 105]) (rest := []) (wM_CXLNTU cI ad o_X o_L o_N r26 r32 o_O o_E o_Q o_V o_I o_C) [] ⟨hx, hb, hml, hown, hts⟩ (c_Model_push l D cI sd ad o_C o_X o_L o_N r26 o_O o_E o_Q o_V o_I r31 105 r32 hcr32) (cwV2 hts q1147 mvX8_push rfl rfl ⟨(Nat.le_of_ble_eq_true rfl), (Nat.le_of_ble_eq_true rfl)⟩) hK hE hA hP hD hS 0 (T := TX8) (N := 48) (ci := 8) rfl rfl [0, 15] rfl (by decide) rfl rfl rfl rfl rfl rfl hl.1 (Nat.le_of_ble_eq_true rfl) dX8_blocks_116 ⟨Nat.zero_le _, Nat.zero_le _⟩ (fun H locs hP hD hS => ?_)
    refine lv_aload_n hx hb dX8_blocks_119 rfl (lv_at hl 1 rfl) ?_
    obtain ⟨r33, hcr33, hM⟩ := ob_use hM
    refine cl_V (As := []) (rest := []) (wM_CXLNTU cI ad o_X r33.1 r33.2 r26 r32 o_O o_E o_Q o_V o_I o_C) [] ⟨hx, hb, hml, hown, hts⟩ (c_Model_step l D cI sd ad r26 r32 o_O o_E o_Q o_V o_I o_C o_X o_L o_N r33 hcr33) (cwV2 hts q1151 mvX8_step rfl rfl ⟨(Nat.le_of_ble_eq_true rfl), (Nat.le_of_ble_eq_true rfl)⟩) hK hE hA hP hD hS 0 (T := TX8) (N := 48) (ci := 8) rfl rfl [0, 1, 2, 3, 4, 5, 6, 7] rfl (by decide) (mrgE rfl rfl) rfl rfl rfl rfl rfl hl.1 (Nat.le_of_ble_eq_true rfl) dX8_blocks_120 ⟨Nat.zero_le _, Nat.zero_le _⟩ (fun H locs hP hD hS => ?_)
    cases hM
    exact rt_v hx hb hr hlk hP hD hS rfl dX8_blocks_123

set_option maxHeartbeats 4000000 in
set_option maxRecDepth 100000 in
theorem c_Model_title (l : Launch) (D : va_G) (cI : ClassId) (sd : Nat → Nat) (ad : Nat → Nat) (o_U : S_MU) (o_O : S_MO) (o_E : S_ME) (o_Q : S_MQ) (o_V : S_MV) (o_I : S_MI) (o_C : S_MC) (o_X : S_MX) (o_L : S_ML) (o_N : S_MN) (o_T : S_MT) (res : S_ML × S_MN × S_MT) (hM : f_Model_title o_C o_X o_L o_N o_T = some res) : Ctr l D cI sd yX8_title (wsM yX8_title cX8_title 1 (Option.none : Option Jvm.ClassFile.FieldType)) { frames := 6, cells := 0, slots := 0, locals := 133 } [.ref (ad 100)] (wM_CXLNT cI ad o_X o_L o_N o_T o_U o_O o_E o_Q o_V o_I o_C) (wM_CXLNT cI ad o_X res.1 res.2.1 res.2.2 o_U o_O o_E o_Q o_V o_I o_C) none := by
  refine Ctr.of (cc := cX8_title) (maxL := 1) (own := RX8) (by decide +kernel) rfl rfl (Nat.le_of_ble_eq_true rfl) ?_
  intro p e s m below meth c A ls hx hb hr hml hown hts hlk hK hE hA hP hD hS hl
  have hl : lv_has ls 1 [(0, .ref (ad 100))] := hl
  unfold f_Model_title at hM
  refine lv_aload_n hx hb dX8_title_0 rfl (lv_at hl 0 rfl) ?_
  refine va_get (D := D) (ci := 8) (v := .ref (ad 110)) (C := RX8) (T := TX8) (N := 48) hx hb hts layX8 hown hK hP 0 rfl rfl 19 (by decide) (hts _ (inA q997)) (fun _ h9 => h9) rfl dX8_title_1 ?_
  refine lv_aload_n hx hb dX8_title_4 rfl (lv_at hl 0 rfl) ?_
  refine va_get (D := D) (ci := 8) (v := .int o_T.2.1) (C := RX8) (T := TX8) (N := 48) hx hb hts layX8 hown hK hP 0 rfl rfl 24 (by decide) (hts _ (inA q1002)) (fun _ h9 => h9) rfl dX8_title_5 ?_
  refine lv_aload_n hx hb dX8_title_8 rfl (lv_at hl 0 rfl) ?_
  refine va_get (D := D) (ci := 8) (v := .int o_L.2.2.1) (C := RX8) (T := TX8) (N := 48) hx hb hts layX8 hown hK hP 0 rfl rfl 8 (by decide) (hts _ (inA q986)) (fun _ h9 => h9) rfl dX8_title_9 ?_
  obtain ⟨b1, hM⟩ := gd_use hM
  refine va_iast hx hb hK hP hD hS 10 0 rfl rfl b1 dX8_title_12 (fun H locs hP hD hS => ?_)
  have hP : va_P D vwCl (wM_CXLNT cI ad o_X o_L o_N (o_T.1, o_T.2.1, o_T.2.2.1, o_T.2.2.2.1, upd o_T.2.2.2.2.1 o_T.2.1.toNatClampNeg o_L.2.2.1, o_T.2.2.2.2.2) o_U o_O o_E o_Q o_V o_I o_C) H := hP
  have hD : va_D A (wM_CXLNT cI ad o_X o_L o_N (o_T.1, o_T.2.1, o_T.2.2.1, o_T.2.2.2.1, upd o_T.2.2.2.2.1 o_T.2.1.toNatClampNeg o_L.2.2.1, o_T.2.2.2.2.2) o_U o_O o_E o_Q o_V o_I o_C) := hD
  refine lv_aload_n hx hb dX8_title_13 rfl (lv_at hl 0 rfl) ?_
  refine lv_bipush (v := 80) hx hb dX8_title_14 (by decide) ?_
  obtain ⟨r2, hcr2, hM⟩ := ob_use hM
  refine cl_V (As := [.int 80]) (rest := []) (wM_CXLNT cI ad o_X r2.1 r2.2 (o_T.1, o_T.2.1, o_T.2.2.1, o_T.2.2.2.1, upd o_T.2.2.2.2.1 o_T.2.1.toNatClampNeg o_L.2.2.1, o_T.2.2.2.2.2) o_U o_O o_E o_Q o_V o_I o_C) [] ⟨hx, hb, hml, hown, hts⟩ (c_Model_pass l D cI sd ad (o_T.1, o_T.2.1, o_T.2.2.1, o_T.2.2.2.1, upd o_T.2.2.2.2.1 o_T.2.1.toNatClampNeg o_L.2.2.1, o_T.2.2.2.2.2) o_U o_O o_E o_Q o_V o_I o_C o_X o_L o_N 80 r2 hcr2) (cwV2 hts q1229 mvX8_pass rfl rfl ⟨(Nat.le_of_ble_eq_true rfl), (Nat.le_of_ble_eq_true rfl)⟩) hK hE hA hP hD hS 0 (T := TX8) (N := 48) (ci := 8) rfl rfl [0, 1, 2, 3, 4, 5, 6, 7] rfl (by decide) (mrgE rfl rfl) rfl rfl rfl rfl rfl hl.1 (Nat.le_of_ble_eq_true rfl) dX8_title_16 ⟨Nat.zero_le _, Nat.zero_le _⟩ (fun H locs hP hD hS => ?_)
  cases hM
  exact rt_v hx hb hr hlk hP hD hS rfl dX8_title_19

set_option maxHeartbeats 4000000 in
set_option maxRecDepth 100000 in
theorem c_Model_sections (l : Launch) (D : va_G) (cI : ClassId) (sd : Nat → Nat) (ad : Nat → Nat) (o_O : S_MO) (o_E : S_ME) (o_Q : S_MQ) (o_V : S_MV) (o_I : S_MI) (o_C : S_MC) (o_X : S_MX) (o_L : S_ML) (o_N : S_MN) (o_T : S_MT) (o_U : S_MU) (res : S_ML × S_MN × S_MT × S_MU) (hM : f_Model_sections o_C o_X o_L o_N o_T o_U = some res) : Ctr l D cI sd yX8_sections (wsM yX8_sections cX8_sections 1 (Option.none : Option Jvm.ClassFile.FieldType)) { frames := 5, cells := 0, slots := 0, locals := 112 } [.ref (ad 100)] (wM_CXLNTU cI ad o_X o_L o_N o_T o_U o_O o_E o_Q o_V o_I o_C) (wM_CXLNTU cI ad o_X res.1 res.2.1 res.2.2.1 res.2.2.2 o_O o_E o_Q o_V o_I o_C) none := by
  refine Ctr.of (cc := cX8_sections) (maxL := 1) (own := RX8) (by decide +kernel) rfl rfl (Nat.le_of_ble_eq_true rfl) ?_
  intro p e s m below meth c A ls hx hb hr hml hown hts hlk hK hE hA hP hD hS hl
  have hl : lv_has ls 1 [(0, .ref (ad 100))] := hl
  unfold f_Model_sections at hM
  refine lv_aload_n hx hb dX8_sections_0 rfl (lv_at hl 0 rfl) ?_
  refine va_get (D := D) (ci := 8) (v := .int o_L.2.1) (C := RX8) (T := TX8) (N := 48) hx hb hts layX8 hown hK hP 0 rfl rfl 7 (by decide) (hts _ (inA q985)) (fun _ h9 => h9) rfl dX8_sections_1 ?_
  refine lv_bipush (v := 6) hx hb dX8_sections_4 (by decide) ?_
  refine lv_icmp_lt (tgt := 50) hx hb dX8_sections_6 (by decide) (fun c1 => ?_) (fun c1 => ?_)
  · replace hM := if_t c1 hM
    cases hM
    exact rt_v hx hb hr hlk hP hD hS rfl dX8_sections_50
  · replace hM := if_f c1 hM
    refine lv_aload_n hx hb dX8_sections_9 rfl (lv_at hl 0 rfl) ?_
    refine va_get (D := D) (ci := 8) (v := .int o_L.2.1) (C := RX8) (T := TX8) (N := 48) hx hb hts layX8 hown hK hP 0 rfl rfl 7 (by decide) (hts _ (inA q985)) (fun _ h9 => h9) rfl dX8_sections_10 ?_
    refine lv_bipush (v := 8) hx hb dX8_sections_13 (by decide) ?_
    refine lv_icmp_gt (tgt := 50) hx hb dX8_sections_15 (by decide) (fun c2 => ?_) (fun c2 => ?_)
    · replace hM := if_t c2 hM
      cases hM
      exact rt_v hx hb hr hlk hP hD hS rfl dX8_sections_50
    · replace hM := if_f c2 hM
      refine lv_aload_n hx hb dX8_sections_18 rfl (lv_at hl 0 rfl) ?_
      refine lv_iconst (v := 4) hx hb dX8_sections_19 (by decide) ?_
      refine lv_aload_n hx hb dX8_sections_20 rfl (lv_at hl 0 rfl) ?_
      refine va_get (D := D) (ci := 8) (v := .int o_L.1) (C := RX8) (T := TX8) (N := 48) hx hb hts layX8 hown hK hP 0 rfl rfl 6 (by decide) (hts _ (inA q984)) (fun _ h9 => h9) rfl dX8_sections_21 ?_
      refine lv_aload_n hx hb dX8_sections_24 rfl (lv_at hl 0 rfl) ?_
      refine va_get (D := D) (ci := 8) (v := .int o_L.2.1) (C := RX8) (T := TX8) (N := 48) hx hb hts layX8 hown hK hP 0 rfl rfl 7 (by decide) (hts _ (inA q985)) (fun _ h9 => h9) rfl dX8_sections_25 ?_
      refine lv_bipush (v := 6) hx hb dX8_sections_28 (by decide) ?_
      refine lv_isub hx hb dX8_sections_30 ?_
      obtain ⟨r3, hcr3, hM⟩ := ob_use hM
      refine cl_V (As := [.int 4, .int o_L.1, .int (o_L.2.1 - 6)]) (rest := []) (wM_CXLNTU cI ad o_X o_L o_N r3 o_U o_O o_E o_Q o_V o_I o_C) [] ⟨hx, hb, hml, hown, hts⟩ (c_Model_down l D cI sd ad o_C o_X o_L o_N o_U o_O o_E o_Q o_V o_I o_T 4 o_L.1 (o_L.2.1 - 6) r3 hcr3) (cwV2 hts q1245 mvX8_down rfl rfl ⟨(Nat.le_of_ble_eq_true rfl), (Nat.le_of_ble_eq_true rfl)⟩) hK hE hA hP hD hS 0 (T := TX8) (N := 48) (ci := 8) rfl rfl [0, 8, 9, 10, 11, 12, 13, 14] rfl (by decide) (mrgE rfl rfl) rfl rfl rfl rfl rfl hl.1 (Nat.le_of_ble_eq_true rfl) dX8_sections_31 ⟨Nat.zero_le _, Nat.zero_le _⟩ (fun H locs hP hD hS => ?_)
      refine lv_aload_n hx hb dX8_sections_34 rfl (lv_at hl 0 rfl) ?_
      obtain ⟨r4, hcr4, hM⟩ := ob_use hM
      refine cl_V (As := []) (rest := []) (wM_CXLNTU cI ad o_X r4.1 r4.2 r3 o_U o_O o_E o_Q o_V o_I o_C) [] ⟨hx, hb, hml, hown, hts⟩ (c_Model_step l D cI sd ad r3 o_U o_O o_E o_Q o_V o_I o_C o_X o_L o_N r4 hcr4) (cwV2 hts q1151 mvX8_step rfl rfl ⟨(Nat.le_of_ble_eq_true rfl), (Nat.le_of_ble_eq_true rfl)⟩) hK hE hA hP hD hS 0 (T := TX8) (N := 48) (ci := 8) rfl rfl [0, 1, 2, 3, 4, 5, 6, 7] rfl (by decide) (mrgE rfl rfl) rfl rfl rfl rfl rfl hl.1 (Nat.le_of_ble_eq_true rfl) dX8_sections_35 ⟨Nat.zero_le _, Nat.zero_le _⟩ (fun H locs hP hD hS => ?_)
      refine lv_aload_n hx hb dX8_sections_38 rfl (lv_at hl 0 rfl) ?_
      refine lv_bipush (v := 103) hx hb dX8_sections_39 (by decide) ?_
      refine lv_bipush (v := 101) hx hb dX8_sections_41 (by decide) ?_
      refine lv_bipush (v := 9) hx hb dX8_sections_43 (by decide) ?_
      refine lv_bipush (v := 106) hx hb dX8_sections_45 (by decide) ?_
      obtain ⟨r5, hcr5, hM⟩ := ob_use hM
      refine cl_V (As := [.int 103, .int 101, .int 9, .int 106]) (rest := []) (wM_CXLNTU cI ad o_X r4.1 r4.2 r3 r5 o_O o_E o_Q o_V o_I o_C) [] ⟨hx, hb, hml, hown, hts⟩ (c_Model_push4 l D cI sd ad o_C o_X r4.1 r4.2 r3 o_O o_E o_Q o_V o_I o_U 103 101 9 106 r5 hcr5) (cwV2 hts q1253 mvX8_push4 rfl rfl ⟨(Nat.le_of_ble_eq_true rfl), (Nat.le_of_ble_eq_true rfl)⟩) hK hE hA hP hD hS 0 (T := TX8) (N := 48) (ci := 8) rfl rfl [0, 15] rfl (by decide) rfl rfl rfl rfl rfl rfl hl.1 (Nat.le_of_ble_eq_true rfl) dX8_sections_47 ⟨Nat.zero_le _, Nat.zero_le _⟩ (fun H locs hP hD hS => ?_)
      cases hM
      exact rt_v hx hb hr hlk hP hD hS rfl dX8_sections_50

set_option maxHeartbeats 4000000 in
set_option maxRecDepth 100000 in
theorem c_Model_body (l : Launch) (D : va_G) (cI : ClassId) (sd : Nat → Nat) (ad : Nat → Nat) (o_O : S_MO) (o_E : S_ME) (o_Q : S_MQ) (o_V : S_MV) (o_I : S_MI) (o_C : S_MC) (o_X : S_MX) (o_L : S_ML) (o_N : S_MN) (o_T : S_MT) (o_U : S_MU) (res : S_ML × S_MN × S_MT × S_MU) (hM : f_Model_body o_C o_X o_L o_N o_T o_U = some res) : Ctr l D cI sd yX8_body (wsM yX8_body cX8_body 1 (Option.none : Option Jvm.ClassFile.FieldType)) { frames := 5, cells := 0, slots := 0, locals := 112 } [.ref (ad 100)] (wM_CXLNTU cI ad o_X o_L o_N o_T o_U o_O o_E o_Q o_V o_I o_C) (wM_CXLNTU cI ad o_X res.1 res.2.1 res.2.2.1 res.2.2.2 o_O o_E o_Q o_V o_I o_C) none := by
  refine Ctr.of (cc := cX8_body) (maxL := 1) (own := RX8) (by decide +kernel) rfl rfl (Nat.le_of_ble_eq_true rfl) ?_
  intro p e s m below meth c A ls hx hb hr hml hown hts hlk hK hE hA hP hD hS hl
  have hl : lv_has ls 1 [(0, .ref (ad 100))] := hl
  unfold f_Model_body at hM
  refine lv_aload_n hx hb dX8_body_0 rfl (lv_at hl 0 rfl) ?_
  refine va_get (D := D) (ci := 8) (v := .int o_L.2.1) (C := RX8) (T := TX8) (N := 48) hx hb hts layX8 hown hK hP 0 rfl rfl 7 (by decide) (hts _ (inA q985)) (fun _ h9 => h9) rfl dX8_body_1 ?_
  refine lv_bipush (v := 37) hx hb dX8_body_4 (by decide) ?_
  refine lv_icmp_ne (tgt := 42) hx hb dX8_body_6 (by decide) (fun c1 => ?_) (fun c1 => ?_)
  · replace hM := if_f c1 hM
    refine lv_aload_n hx hb dX8_body_42 rfl (lv_at hl 0 rfl) ?_
    refine lv_bipush (v := 11) hx hb dX8_body_43 (by decide) ?_
    refine lv_aload_n hx hb dX8_body_45 rfl (lv_at hl 0 rfl) ?_
    refine va_get (D := D) (ci := 8) (v := .int o_L.2.2.2.2.1) (C := RX8) (T := TX8) (N := 48) hx hb hts layX8 hown hK hP 0 rfl rfl 10 (by decide) (hts _ (inA q988)) (fun _ h9 => h9) rfl dX8_body_46 ?_
    refine lv_iconst (v := 0) hx hb dX8_body_49 (by decide) ?_
    obtain ⟨r2, hcr2, hM⟩ := ob_use hM
    refine cl_V (As := [.int 11, .int o_L.2.2.2.2.1, .int 0]) (rest := []) (wM_CXLNTU cI ad o_X o_L o_N r2 o_U o_O o_E o_Q o_V o_I o_C) [] ⟨hx, hb, hml, hown, hts⟩ (c_Model_down l D cI sd ad o_C o_X o_L o_N o_U o_O o_E o_Q o_V o_I o_T 11 o_L.2.2.2.2.1 0 r2 hcr2) (cwV2 hts q1245 mvX8_down rfl rfl ⟨(Nat.le_of_ble_eq_true rfl), (Nat.le_of_ble_eq_true rfl)⟩) hK hE hA hP hD hS 0 (T := TX8) (N := 48) (ci := 8) rfl rfl [0, 8, 9, 10, 11, 12, 13, 14] rfl (by decide) (mrgE rfl rfl) rfl rfl rfl rfl rfl hl.1 (Nat.le_of_ble_eq_true rfl) dX8_body_50 ⟨Nat.zero_le _, Nat.zero_le _⟩ (fun H locs hP hD hS => ?_)
    refine lv_aload_n hx hb dX8_body_53 rfl (lv_at hl 0 rfl) ?_
    refine lv_bipush (v := 101) hx hb dX8_body_54 (by decide) ?_
    refine lv_bipush (v := 115) hx hb dX8_body_56 (by decide) ?_
    obtain ⟨r3, hcr3, hM⟩ := ob_use hM
    refine cl_V (As := [.int 101, .int 115]) (rest := []) (wM_CXLNTU cI ad o_X o_L o_N r2 r3 o_O o_E o_Q o_V o_I o_C) [] ⟨hx, hb, hml, hown, hts⟩ (c_Model_push2 l D cI sd ad o_C o_X o_L o_N r2 o_O o_E o_Q o_V o_I o_U 101 115 r3 hcr3) (cwV2 hts q1257 mvX8_push2 rfl rfl ⟨(Nat.le_of_ble_eq_true rfl), (Nat.le_of_ble_eq_true rfl)⟩) hK hE hA hP hD hS 0 (T := TX8) (N := 48) (ci := 8) rfl rfl [0, 15] rfl (by decide) rfl rfl rfl rfl rfl rfl hl.1 (Nat.le_of_ble_eq_true rfl) dX8_body_58 ⟨Nat.zero_le _, Nat.zero_le _⟩ (fun H locs hP hD hS => ?_)
    cases hM
    exact rt_v hx hb hr hlk hP hD hS rfl dX8_body_61
  · replace hM := if_t c1 hM
    refine lv_aload_n hx hb dX8_body_9 rfl (lv_at hl 0 rfl) ?_
    refine lv_bipush (v := 22) hx hb dX8_body_10 (by decide) ?_
    refine lv_aload_n hx hb dX8_body_12 rfl (lv_at hl 0 rfl) ?_
    refine va_get (D := D) (ci := 8) (v := .int o_L.1) (C := RX8) (T := TX8) (N := 48) hx hb hts layX8 hown hK hP 0 rfl rfl 6 (by decide) (hts _ (inA q984)) (fun _ h9 => h9) rfl dX8_body_13 ?_
    refine lv_iconst (v := 0) hx hb dX8_body_16 (by decide) ?_
    obtain ⟨r4, hcr4, hM⟩ := ob_use hM
    refine cl_V (As := [.int 22, .int o_L.1, .int 0]) (rest := []) (wM_CXLNTU cI ad o_X o_L o_N r4 o_U o_O o_E o_Q o_V o_I o_C) [] ⟨hx, hb, hml, hown, hts⟩ (c_Model_down l D cI sd ad o_C o_X o_L o_N o_U o_O o_E o_Q o_V o_I o_T 22 o_L.1 0 r4 hcr4) (cwV2 hts q1245 mvX8_down rfl rfl ⟨(Nat.le_of_ble_eq_true rfl), (Nat.le_of_ble_eq_true rfl)⟩) hK hE hA hP hD hS 0 (T := TX8) (N := 48) (ci := 8) rfl rfl [0, 8, 9, 10, 11, 12, 13, 14] rfl (by decide) (mrgE rfl rfl) rfl rfl rfl rfl rfl hl.1 (Nat.le_of_ble_eq_true rfl) dX8_body_17 ⟨Nat.zero_le _, Nat.zero_le _⟩ (fun H locs hP hD hS => ?_)
    refine lv_aload_n hx hb dX8_body_20 rfl (lv_at hl 0 rfl) ?_
    obtain ⟨r5, hcr5, hM⟩ := ob_use hM
    refine cl_V (As := []) (rest := []) (wM_CXLNTU cI ad o_X r5.1 r5.2 r4 o_U o_O o_E o_Q o_V o_I o_C) [] ⟨hx, hb, hml, hown, hts⟩ (c_Model_step l D cI sd ad r4 o_U o_O o_E o_Q o_V o_I o_C o_X o_L o_N r5 hcr5) (cwV2 hts q1151 mvX8_step rfl rfl ⟨(Nat.le_of_ble_eq_true rfl), (Nat.le_of_ble_eq_true rfl)⟩) hK hE hA hP hD hS 0 (T := TX8) (N := 48) (ci := 8) rfl rfl [0, 1, 2, 3, 4, 5, 6, 7] rfl (by decide) (mrgE rfl rfl) rfl rfl rfl rfl rfl hl.1 (Nat.le_of_ble_eq_true rfl) dX8_body_21 ⟨Nat.zero_le _, Nat.zero_le _⟩ (fun H locs hP hD hS => ?_)
    refine lv_aload_n hx hb dX8_body_24 rfl (lv_at hl 0 rfl) ?_
    refine lv_bipush (v := 101) hx hb dX8_body_25 (by decide) ?_
    refine lv_bipush (v := 38) hx hb dX8_body_27 (by decide) ?_
    obtain ⟨r6, hcr6, hM⟩ := ob_use hM
    refine cl_V (As := [.int 101, .int 38]) (rest := []) (wM_CXLNTU cI ad o_X r5.1 r5.2 r4 r6 o_O o_E o_Q o_V o_I o_C) [] ⟨hx, hb, hml, hown, hts⟩ (c_Model_push2 l D cI sd ad o_C o_X r5.1 r5.2 r4 o_O o_E o_Q o_V o_I o_U 101 38 r6 hcr6) (cwV2 hts q1257 mvX8_push2 rfl rfl ⟨(Nat.le_of_ble_eq_true rfl), (Nat.le_of_ble_eq_true rfl)⟩) hK hE hA hP hD hS 0 (T := TX8) (N := 48) (ci := 8) rfl rfl [0, 15] rfl (by decide) rfl rfl rfl rfl rfl rfl hl.1 (Nat.le_of_ble_eq_true rfl) dX8_body_29 ⟨Nat.zero_le _, Nat.zero_le _⟩ (fun H locs hP hD hS => ?_)
    refine lv_aload_n hx hb dX8_body_32 rfl (lv_at hl 0 rfl) ?_
    refine lv_sipush (v := 150) hx hb dX8_body_33 (by decide) ?_
    obtain ⟨r7, hcr7, hM⟩ := ob_use hM
    refine cl_V (As := [.int 150]) (rest := []) (wM_CXLNTU cI ad o_X r5.1 r5.2 r4 r7 o_O o_E o_Q o_V o_I o_C) [] ⟨hx, hb, hml, hown, hts⟩ (c_Model_push l D cI sd ad o_C o_X r5.1 r5.2 r4 o_O o_E o_Q o_V o_I r6 150 r7 hcr7) (cwV2 hts q1147 mvX8_push rfl rfl ⟨(Nat.le_of_ble_eq_true rfl), (Nat.le_of_ble_eq_true rfl)⟩) hK hE hA hP hD hS 0 (T := TX8) (N := 48) (ci := 8) rfl rfl [0, 15] rfl (by decide) rfl rfl rfl rfl rfl rfl hl.1 (Nat.le_of_ble_eq_true rfl) dX8_body_36 ⟨Nat.zero_le _, Nat.zero_le _⟩ (fun H locs hP hD hS => ?_)
    refine lv_goto (tgt := 61) hx hb dX8_body_39 (by decide) ?_
    cases hM
    exact rt_v hx hb hr hlk hP hD hS rfl dX8_body_61

set_option maxHeartbeats 4000000 in
set_option maxRecDepth 100000 in
theorem c_Model_bodyBehind (l : Launch) (D : va_G) (cI : ClassId) (sd : Nat → Nat) (ad : Nat → Nat) (o_O : S_MO) (o_E : S_ME) (o_Q : S_MQ) (o_V : S_MV) (o_I : S_MI) (o_C : S_MC) (o_X : S_MX) (o_L : S_ML) (o_N : S_MN) (o_T : S_MT) (o_U : S_MU) (a1 : Int32) (res : S_ML × S_MN × S_MT × S_MU) (hM : f_Model_bodyBehind o_C o_X o_L o_N o_T o_U a1 = some res) : Ctr l D cI sd yX8_bodyBehind (wsM yX8_bodyBehind cX8_bodyBehind 3 (Option.none : Option Jvm.ClassFile.FieldType)) { frames := 6, cells := 0, slots := 0, locals := 133 } [.ref (ad 100), .int a1] (wM_CXLNTU cI ad o_X o_L o_N o_T o_U o_O o_E o_Q o_V o_I o_C) (wM_CXLNTU cI ad o_X res.1 res.2.1 res.2.2.1 res.2.2.2 o_O o_E o_Q o_V o_I o_C) none := by
  refine Ctr.of (cc := cX8_bodyBehind) (maxL := 3) (own := RX8) (by decide +kernel) rfl rfl (Nat.le_of_ble_eq_true rfl) ?_
  intro p e s m below meth c A ls hx hb hr hml hown hts hlk hK hE hA hP hD hS hl
  have hl : lv_has ls 3 [(0, .ref (ad 100)), (1, .int a1)] := hl
  unfold f_Model_bodyBehind at hM
  refine lv_aload_n hx hb dX8_bodyBehind_0 rfl (lv_at hl 0 rfl) ?_
  refine va_get (D := D) (ci := 8) (v := .int o_L.1) (C := RX8) (T := TX8) (N := 48) hx hb hts layX8 hown hK hP 0 rfl rfl 6 (by decide) (hts _ (inA q984)) (fun _ h9 => h9) rfl dX8_bodyBehind_1 ?_
  refine lv_istore_n (lv' := [(2, .int o_L.1), (0, .ref (ad 100)), (1, .int a1)]) hx hb dX8_bodyBehind_4 rfl hl (by decide) rfl (fun ls hl => ?_)
  refine lv_aload_n hx hb dX8_bodyBehind_5 rfl (lv_at hl 1 rfl) ?_
  refine lv_iload_n hx hb dX8_bodyBehind_6 rfl (lv_at hl 2 rfl) ?_
  obtain ⟨r1, hcr1, hM⟩ := ob_use hM
  refine cl_V (As := [.int a1]) (rest := []) (wM_CXLNTU cI ad o_X r1.1 r1.2 o_T o_U o_O o_E o_Q o_V o_I o_C) [] ⟨hx, hb, hml, hown, hts⟩ (c_Model_pass l D cI sd ad o_T o_U o_O o_E o_Q o_V o_I o_C o_X o_L o_N a1 r1 hcr1) (cwV2 hts q1229 mvX8_pass rfl rfl ⟨(Nat.le_of_ble_eq_true rfl), (Nat.le_of_ble_eq_true rfl)⟩) hK hE hA hP hD hS 0 (T := TX8) (N := 48) (ci := 8) rfl rfl [0, 1, 2, 3, 4, 5, 6, 7] rfl (by decide) (mrgE rfl rfl) rfl rfl rfl rfl rfl hl.1 (Nat.le_of_ble_eq_true rfl) dX8_bodyBehind_7 ⟨Nat.zero_le _, Nat.zero_le _⟩ (fun H locs hP hD hS => ?_)
  refine lv_aload_n hx hb dX8_bodyBehind_10 rfl (lv_at hl 1 rfl) ?_
  refine va_get (D := D) (ci := 8) (v := .int r1.1.2.2.2.2.2.1) (C := RX8) (T := TX8) (N := 48) hx hb hts layX8 hown hK hP 0 rfl rfl 11 (by decide) (hts _ (inA q989)) (fun _ h9 => h9) rfl dX8_bodyBehind_11 ?_
  refine lv_if_ne (tgt := 33) hx hb dX8_bodyBehind_14 (by decide) (fun c2 => ?_) (fun c2 => ?_)
  · replace hM := if_f c2 hM
    cases hM
    exact rt_v hx hb hr hlk hP hD hS rfl dX8_bodyBehind_33
  · replace hM := if_t c2 hM
    refine lv_aload_n hx hb dX8_bodyBehind_17 rfl (lv_at hl 1 rfl) ?_
    refine lv_bipush (v := 11) hx hb dX8_bodyBehind_18 (by decide) ?_
    refine lv_iload_n hx hb dX8_bodyBehind_20 rfl (lv_at hl 0 rfl) ?_
    refine lv_iconst (v := 0) hx hb dX8_bodyBehind_21 (by decide) ?_
    obtain ⟨r3, hcr3, hM⟩ := ob_use hM
    refine cl_V (As := [.int 11, .int o_L.1, .int 0]) (rest := []) (wM_CXLNTU cI ad o_X r1.1 r1.2 r3 o_U o_O o_E o_Q o_V o_I o_C) [] ⟨hx, hb, hml, hown, hts⟩ (c_Model_down l D cI sd ad o_C o_X r1.1 r1.2 o_U o_O o_E o_Q o_V o_I o_T 11 o_L.1 0 r3 hcr3) (cwV2 hts q1245 mvX8_down rfl rfl ⟨(Nat.le_of_ble_eq_true rfl), (Nat.le_of_ble_eq_true rfl)⟩) hK hE hA hP hD hS 0 (T := TX8) (N := 48) (ci := 8) rfl rfl [0, 8, 9, 10, 11, 12, 13, 14] rfl (by decide) (mrgE rfl rfl) rfl rfl rfl rfl rfl hl.1 (Nat.le_of_ble_eq_true rfl) dX8_bodyBehind_22 ⟨Nat.zero_le _, Nat.zero_le _⟩ (fun H locs hP hD hS => ?_)
    refine lv_aload_n hx hb dX8_bodyBehind_25 rfl (lv_at hl 1 rfl) ?_
    refine lv_bipush (v := 101) hx hb dX8_bodyBehind_26 (by decide) ?_
    refine lv_bipush (v := 115) hx hb dX8_bodyBehind_28 (by decide) ?_
    obtain ⟨r4, hcr4, hM⟩ := ob_use hM
    refine cl_V (As := [.int 101, .int 115]) (rest := []) (wM_CXLNTU cI ad o_X r1.1 r1.2 r3 r4 o_O o_E o_Q o_V o_I o_C) [] ⟨hx, hb, hml, hown, hts⟩ (c_Model_push2 l D cI sd ad o_C o_X r1.1 r1.2 r3 o_O o_E o_Q o_V o_I o_U 101 115 r4 hcr4) (cwV2 hts q1257 mvX8_push2 rfl rfl ⟨(Nat.le_of_ble_eq_true rfl), (Nat.le_of_ble_eq_true rfl)⟩) hK hE hA hP hD hS 0 (T := TX8) (N := 48) (ci := 8) rfl rfl [0, 15] rfl (by decide) rfl rfl rfl rfl rfl rfl hl.1 (Nat.le_of_ble_eq_true rfl) dX8_bodyBehind_30 ⟨Nat.zero_le _, Nat.zero_le _⟩ (fun H locs hP hD hS => ?_)
    cases hM
    exact rt_v hx hb hr hlk hP hD hS rfl dX8_bodyBehind_33

set_option maxHeartbeats 4000000 in
set_option maxRecDepth 100000 in
theorem c_Model_declarations (l : Launch) (D : va_G) (cI : ClassId) (sd : Nat → Nat) (ad : Nat → Nat) (o_C : S_MC) (o_X : S_MX) (o_N : S_MN) (o_O : S_MO) (o_E : S_ME) (o_Q : S_MQ) (o_V : S_MV) (o_I : S_MI) (o_L : S_ML) (o_T : S_MT) (o_U : S_MU) (res : S_MT × S_MU) (hM : f_Model_declarations o_L o_T o_U = some res) : Ctr l D cI sd yX8_declarations (wsM yX8_declarations cX8_declarations 1 (Option.none : Option Jvm.ClassFile.FieldType)) { frames := 3, cells := 0, slots := 0, locals := 67 } [.ref (ad 100)] (wM_LTU cI ad o_X o_L o_N o_T o_U o_O o_E o_Q o_V o_I) (wM_LTU cI ad o_X o_L o_N res.1 res.2 o_O o_E o_Q o_V o_I) none := by
  refine Ctr.of (cc := cX8_declarations) (maxL := 1) (own := RX8) (by decide +kernel) rfl rfl (Nat.le_of_ble_eq_true rfl) ?_
  intro p e s m below meth c A ls hx hb hr hml hown hts hlk hK hE hA hP hD hS hl
  have hl : lv_has ls 1 [(0, .ref (ad 100))] := hl
  unfold f_Model_declarations at hM
  refine lv_aload_n hx hb dX8_declarations_0 rfl (lv_at hl 0 rfl) ?_
  refine va_get (D := D) (ci := 8) (v := .int o_L.2.1) (C := RX8) (T := TX8) (N := 48) hx hb hts layX8 hown hK hP 0 rfl rfl 7 (by decide) (hts _ (inA q985)) (fun _ h9 => h9) rfl dX8_declarations_1 ?_
  refine lv_bipush (v := 80) hx hb dX8_declarations_4 (by decide) ?_
  refine lv_icmp_ne (tgt := 43) hx hb dX8_declarations_6 (by decide) (fun c1 => ?_) (fun c1 => ?_)
  · replace hM := if_f c1 hM
    cases hM
    exact rt_v hx hb hr hlk hP hD hS rfl dX8_declarations_43
  · replace hM := if_t c1 hM
    refine lv_aload_n hx hb dX8_declarations_9 rfl (lv_at hl 0 rfl) ?_
    refine lv_iconst (v := 5) hx hb dX8_declarations_10 (by decide) ?_
    refine lv_aload_n hx hb dX8_declarations_11 rfl (lv_at hl 0 rfl) ?_
    refine va_get (D := D) (ci := 8) (v := .int o_L.1) (C := RX8) (T := TX8) (N := 48) hx hb hts layX8 hown hK hP 0 rfl rfl 6 (by decide) (hts _ (inA q984)) (fun _ h9 => h9) rfl dX8_declarations_12 ?_
    refine lv_iconst (v := 0) hx hb dX8_declarations_15 (by decide) ?_
    obtain ⟨r2, hcr2, hM⟩ := ob_use hM
    refine cl_V (As := [.int 5, .int o_L.1, .int 0]) (rest := []) (wM_LTU cI ad o_X o_L o_N r2 o_U o_O o_E o_Q o_V o_I) [] ⟨hx, hb, hml, hown, hts⟩ (c_Model_down l D cI sd ad o_C o_X o_L o_N o_U o_O o_E o_Q o_V o_I o_T 5 o_L.1 0 r2 hcr2) (cwV2 hts q1245 mvX8_down rfl rfl ⟨(Nat.le_of_ble_eq_true rfl), (Nat.le_of_ble_eq_true rfl)⟩) hK hE hA hP hD hS 0 (T := TX8) (N := 48) (ci := 8) rfl rfl [0, 1, 2, 3, 4, 5, 6, 7] rfl (by decide) (mrgE rfl rfl) rfl rfl rfl rfl rfl hl.1 (Nat.le_of_ble_eq_true rfl) dX8_declarations_16 ⟨Nat.zero_le _, Nat.zero_le _⟩ (fun H locs hP hD hS => ?_)
    refine lv_aload_n hx hb dX8_declarations_19 rfl (lv_at hl 0 rfl) ?_
    refine lv_bipush (v := 106) hx hb dX8_declarations_20 (by decide) ?_
    refine lv_bipush (v := 101) hx hb dX8_declarations_22 (by decide) ?_
    refine lv_bipush (v := 60) hx hb dX8_declarations_24 (by decide) ?_
    refine lv_bipush (v := 110) hx hb dX8_declarations_26 (by decide) ?_
    obtain ⟨r3, hcr3, hM⟩ := ob_use hM
    refine cl_V (As := [.int 106, .int 101, .int 60, .int 110]) (rest := []) (wM_LTU cI ad o_X o_L o_N r2 r3 o_O o_E o_Q o_V o_I) [] ⟨hx, hb, hml, hown, hts⟩ (c_Model_push4 l D cI sd ad o_C o_X o_L o_N r2 o_O o_E o_Q o_V o_I o_U 106 101 60 110 r3 hcr3) (cwV2 hts q1253 mvX8_push4 rfl rfl ⟨(Nat.le_of_ble_eq_true rfl), (Nat.le_of_ble_eq_true rfl)⟩) hK hE hA hP hD hS 0 (T := TX8) (N := 48) (ci := 8) rfl rfl [0, 8] rfl (by decide) rfl rfl rfl rfl rfl rfl hl.1 (Nat.le_of_ble_eq_true rfl) dX8_declarations_28 ⟨Nat.zero_le _, Nat.zero_le _⟩ (fun H locs hP hD hS => ?_)
    refine lv_aload_n hx hb dX8_declarations_31 rfl (lv_at hl 0 rfl) ?_
    refine lv_bipush (v := 109) hx hb dX8_declarations_32 (by decide) ?_
    refine lv_bipush (v := 61) hx hb dX8_declarations_34 (by decide) ?_
    refine lv_bipush (v := 108) hx hb dX8_declarations_36 (by decide) ?_
    refine lv_bipush (v := 107) hx hb dX8_declarations_38 (by decide) ?_
    obtain ⟨r4, hcr4, hM⟩ := ob_use hM
    refine cl_V (As := [.int 109, .int 61, .int 108, .int 107]) (rest := []) (wM_LTU cI ad o_X o_L o_N r2 r4 o_O o_E o_Q o_V o_I) [] ⟨hx, hb, hml, hown, hts⟩ (c_Model_push4 l D cI sd ad o_C o_X o_L o_N r2 o_O o_E o_Q o_V o_I r3 109 61 108 107 r4 hcr4) (cwV2 hts q1253 mvX8_push4 rfl rfl ⟨(Nat.le_of_ble_eq_true rfl), (Nat.le_of_ble_eq_true rfl)⟩) hK hE hA hP hD hS 0 (T := TX8) (N := 48) (ci := 8) rfl rfl [0, 8] rfl (by decide) rfl rfl rfl rfl rfl rfl hl.1 (Nat.le_of_ble_eq_true rfl) dX8_declarations_40 ⟨Nat.zero_le _, Nat.zero_le _⟩ (fun H locs hP hD hS => ?_)
    cases hM
    exact rt_v hx hb hr hlk hP hD hS rfl dX8_declarations_43

set_option maxHeartbeats 4000000 in
set_option maxRecDepth 100000 in
theorem c_Model_aName (l : Launch) (D : va_G) (cI : ClassId) (sd : Nat → Nat) (ad : Nat → Nat) (o_U : S_MU) (o_O : S_MO) (o_E : S_ME) (o_Q : S_MQ) (o_V : S_MV) (o_I : S_MI) (o_C : S_MC) (o_X : S_MX) (o_L : S_ML) (o_N : S_MN) (o_T : S_MT) (res : S_ML × S_MN × S_MT) (hM : f_Model_aName o_C o_X o_L o_N o_T = some res) : Ctr l D cI sd yX8_aName (wsM yX8_aName cX8_aName 1 (Option.none : Option Jvm.ClassFile.FieldType)) { frames := 6, cells := 0, slots := 0, locals := 133 } [.ref (ad 100)] (wM_CXLNT cI ad o_X o_L o_N o_T o_U o_O o_E o_Q o_V o_I o_C) (wM_CXLNT cI ad o_X res.1 res.2.1 res.2.2 o_U o_O o_E o_Q o_V o_I o_C) none := by
  refine Ctr.of (cc := cX8_aName) (maxL := 1) (own := RX8) (by decide +kernel) rfl rfl (Nat.le_of_ble_eq_true rfl) ?_
  intro p e s m below meth c A ls hx hb hr hml hown hts hlk hK hE hA hP hD hS hl
  have hl : lv_has ls 1 [(0, .ref (ad 100))] := hl
  unfold f_Model_aName at hM
  refine lv_aload_n hx hb dX8_aName_0 rfl (lv_at hl 0 rfl) ?_
  refine lv_bipush (v := 6) hx hb dX8_aName_1 (by decide) ?_
  refine lv_aload_n hx hb dX8_aName_3 rfl (lv_at hl 0 rfl) ?_
  refine va_get (D := D) (ci := 8) (v := .int o_L.1) (C := RX8) (T := TX8) (N := 48) hx hb hts layX8 hown hK hP 0 rfl rfl 6 (by decide) (hts _ (inA q984)) (fun _ h9 => h9) rfl dX8_aName_4 ?_
  refine lv_aload_n hx hb dX8_aName_7 rfl (lv_at hl 0 rfl) ?_
  refine va_get (D := D) (ci := 8) (v := .int o_L.2.2.1) (C := RX8) (T := TX8) (N := 48) hx hb hts layX8 hown hK hP 0 rfl rfl 8 (by decide) (hts _ (inA q986)) (fun _ h9 => h9) rfl dX8_aName_8 ?_
  obtain ⟨r1, hcr1, hM⟩ := ob_use hM
  refine cl_V (As := [.int 6, .int o_L.1, .int o_L.2.2.1]) (rest := []) (wM_CXLNT cI ad o_X o_L o_N r1 o_U o_O o_E o_Q o_V o_I o_C) [] ⟨hx, hb, hml, hown, hts⟩ (c_Model_leaf l D cI sd ad o_C o_X o_L o_N o_U o_O o_E o_Q o_V o_I o_T 6 o_L.1 o_L.2.2.1 r1 hcr1) (cwV2 hts q1277 mvX8_leaf rfl rfl ⟨(Nat.le_of_ble_eq_true rfl), (Nat.le_of_ble_eq_true rfl)⟩) hK hE hA hP hD hS 0 (T := TX8) (N := 48) (ci := 8) rfl rfl [0, 8, 9, 10, 11, 12, 13, 14] rfl (by decide) (mrgE rfl rfl) rfl rfl rfl rfl rfl hl.1 (Nat.le_of_ble_eq_true rfl) dX8_aName_11 ⟨Nat.zero_le _, Nat.zero_le _⟩ (fun H locs hP hD hS => ?_)
  refine lv_aload_n hx hb dX8_aName_14 rfl (lv_at hl 0 rfl) ?_
  refine lv_bipush (v := 80) hx hb dX8_aName_15 (by decide) ?_
  obtain ⟨r2, hcr2, hM⟩ := ob_use hM
  refine cl_V (As := [.int 80]) (rest := []) (wM_CXLNT cI ad o_X r2.1 r2.2 r1 o_U o_O o_E o_Q o_V o_I o_C) [] ⟨hx, hb, hml, hown, hts⟩ (c_Model_pass l D cI sd ad r1 o_U o_O o_E o_Q o_V o_I o_C o_X o_L o_N 80 r2 hcr2) (cwV2 hts q1229 mvX8_pass rfl rfl ⟨(Nat.le_of_ble_eq_true rfl), (Nat.le_of_ble_eq_true rfl)⟩) hK hE hA hP hD hS 0 (T := TX8) (N := 48) (ci := 8) rfl rfl [0, 1, 2, 3, 4, 5, 6, 7] rfl (by decide) (mrgE rfl rfl) rfl rfl rfl rfl rfl hl.1 (Nat.le_of_ble_eq_true rfl) dX8_aName_17 ⟨Nat.zero_le _, Nat.zero_le _⟩ (fun H locs hP hD hS => ?_)
  cases hM
  exact rt_v hx hb hr hlk hP hD hS rfl dX8_aName_20

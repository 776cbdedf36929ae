set_option maxHeartbeats 4000000 in
set_option maxRecDepth 100000 in
theorem c_Model_openItem (l : Launch) (D : va_G) (cI : ClassId) (sd : Nat → Nat) (ad : Nat → Nat) (o_X : S_MX) (o_L : S_ML) (o_U : S_MU) (o_O : S_MO) (o_E : S_ME) (o_Q : S_MQ) (o_C : S_MC) (o_N : S_MN) (o_T : S_MT) (o_V : S_MV) (o_I : S_MI) (a1 : Int32) (a2 : Int32) (res : S_MV × S_MI) (hM : f_Model_openItem o_C o_N o_T o_V o_I a1 a2 = some res) : Ctr l D cI sd yX8_openItem (wsM yX8_openItem cX8_openItem 3 (Option.none : Option Jvm.ClassFile.FieldType)) { frames := 6, cells := 0, slots := 0, locals := 128 } [.ref (ad 100), .int a1, .int a2] (wM_CNTVI cI ad o_X o_L o_N o_T o_U o_O o_E o_Q o_V o_I o_C) (wM_CNTVI cI ad o_X o_L o_N o_T o_U o_O o_E o_Q res.1 res.2 o_C) none := by
  refine Ctr.of (cc := cX8_openItem) (maxL := 3) (own := RX8) (by decide +kernel) rfl rfl (Nat.le_of_ble_eq_true rfl) ?_
  intro p e s m below meth c A ls hx hb hr hml hown hts hlk hK hE hA hP hD hS hl
  have hl : lv_has ls 3 [(0, .ref (ad 100)), (1, .int a1), (2, .int a2)] := hl
  unfold f_Model_openItem at hM
  refine lv_iload_n hx hb dX8_openItem_0 rfl (lv_at hl 1 rfl) ?_
  by_cases c1 : a1 = 0
  · replace hM := if_t c1 hM
    refine lv_lookup (off := 35) (tgt := 36) hx hb dX8_openItem_1 (by decide) (by exact sw_hit c1 (by decide)) (by decide) ?_
    refine lv_aload_n hx hb dX8_openItem_36 rfl (lv_at hl 0 rfl) ?_
    refine lv_iload_n hx hb dX8_openItem_37 rfl (lv_at hl 2 rfl) ?_
    obtain ⟨r2, hcr2, hM⟩ := ob_use hM
    refine cl_V (As := [.int a2]) (rest := []) (wM_CNTVI cI ad o_X o_L o_N o_T o_U o_O o_E o_Q r2 o_I o_C) [] ⟨hx, hb, hml, hown, hts⟩ (c_Model_putToken l D cI sd ad o_X o_L o_N o_T o_U o_O o_E o_Q o_I o_C o_V a2 r2 hcr2) (cwV2 hts q1520 mvX8_putToken rfl rfl ⟨(Nat.le_of_ble_eq_true rfl), (Nat.le_of_ble_eq_true rfl)⟩) hK hE hA hP hD hS 0 (T := TX8) (N := 48) (ci := 8) rfl rfl [0, 1, 2, 3, 4, 14] rfl (by decide) (mrgE rfl rfl) rfl rfl rfl rfl rfl hl.1 (Nat.le_of_ble_eq_true rfl) dX8_openItem_38 ⟨Nat.zero_le _, Nat.zero_le _⟩ (fun H locs hP hD hS => ?_)
    refine lv_goto (tgt := 113) hx hb dX8_openItem_41 (by decide) ?_
    cases hM
    exact rt_v hx hb hr hlk hP hD hS rfl dX8_openItem_113
  replace hM := if_f c1 hM
  by_cases c3 : a1 = 7
  · replace hM := if_t c3 hM
    refine lv_lookup (off := 51) (tgt := 52) hx hb dX8_openItem_1 (by decide) (by rw [lv_osw c1 (by decide)]; exact sw_hit c3 (by decide)) (by decide) ?_
    refine lv_aload_n hx hb dX8_openItem_52 rfl (lv_at hl 0 rfl) ?_
    refine lv_iload_n hx hb dX8_openItem_53 rfl (lv_at hl 2 rfl) ?_
    obtain ⟨r4, hcr4, hM⟩ := ob_use hM
    refine cl_V (As := [.int a2]) (rest := []) (wM_CNTVI cI ad o_X o_L o_N o_T o_U o_O o_E o_Q r4.1 r4.2 o_C) [] ⟨hx, hb, hml, hown, hts⟩ (c_Model_openParts l D cI sd ad o_X o_L o_N o_U o_O o_E o_Q o_C o_T o_V o_I a2 r4 hcr4) (cwV2 hts q1539 mvX8_openParts rfl rfl ⟨(Nat.le_of_ble_eq_true rfl), (Nat.le_of_ble_eq_true rfl)⟩) hK hE hA hP hD hS 0 (T := TX8) (N := 48) (ci := 8) rfl rfl [0, 1, 2, 3, 4, 7, 8, 9, 10, 11, 12, 13, 14, 15, 16] rfl (by decide) (mrgE rfl rfl) rfl rfl rfl rfl rfl hl.1 (Nat.le_of_ble_eq_true rfl) dX8_openItem_54 ⟨Nat.zero_le _, Nat.zero_le _⟩ (fun H locs hP hD hS => ?_)
    refine lv_goto (tgt := 113) hx hb dX8_openItem_57 (by decide) ?_
    cases hM
    exact rt_v hx hb hr hlk hP hD hS rfl dX8_openItem_113
  replace hM := if_f c3 hM
  by_cases c5 : a1 = 8
  · replace hM := if_t c5 hM
    refine lv_lookup (off := 43) (tgt := 44) hx hb dX8_openItem_1 (by decide) (by rw [lv_osw c1 (by decide)]; rw [lv_osw c3 (by decide)]; exact sw_hit c5 (by decide)) (by decide) ?_
    refine lv_aload_n hx hb dX8_openItem_44 rfl (lv_at hl 0 rfl) ?_
    refine lv_iload_n hx hb dX8_openItem_45 rfl (lv_at hl 2 rfl) ?_
    obtain ⟨r6, hcr6, hM⟩ := ob_use hM
    refine cl_V (As := [.int a2]) (rest := []) (wM_CNTVI cI ad o_X o_L o_N o_T o_U o_O o_E o_Q r6 o_I o_C) [] ⟨hx, hb, hml, hown, hts⟩ (c_Model_putName l D cI sd ad o_C o_X o_L o_T o_U o_O o_E o_Q o_I o_N o_V a2 r6 hcr6) (cwV2 hts q1535 mvX8_putName rfl rfl ⟨(Nat.le_of_ble_eq_true rfl), (Nat.le_of_ble_eq_true rfl)⟩) hK hE hA hP hD hS 0 (T := TX8) (N := 48) (ci := 8) rfl rfl [0, 5, 6, 14] rfl (by decide) rfl rfl rfl rfl rfl rfl hl.1 (Nat.le_of_ble_eq_true rfl) dX8_openItem_46 ⟨Nat.zero_le _, Nat.zero_le _⟩ (fun H locs hP hD hS => ?_)
    refine lv_goto (tgt := 113) hx hb dX8_openItem_49 (by decide) ?_
    cases hM
    exact rt_v hx hb hr hlk hP hD hS rfl dX8_openItem_113
  replace hM := if_f c5 hM
  refine lv_lookup (off := 59) (tgt := 60) hx hb dX8_openItem_1 (by decide) (by rw [lv_osw c1 (by decide)]; rw [lv_osw c3 (by decide)]; rw [lv_osw c5 (by decide)]; rfl) (by decide) ?_
  refine lv_iload_n hx hb dX8_openItem_60 rfl (lv_at hl 2 rfl) ?_
  refine lv_iconst (v := (-1)) hx hb dX8_openItem_61 (by decide) ?_
  refine lv_icmp_ne (tgt := 68) hx hb dX8_openItem_62 (by decide) (fun c7 => ?_) (fun c7 => ?_)
  · replace hM := if_f c7 hM
    refine lv_iload_n hx hb dX8_openItem_68 rfl (lv_at hl 1 rfl) ?_
    refine lv_iconst (v := 1) hx hb dX8_openItem_69 (by decide) ?_
    refine lv_icmp_ne (tgt := 81) hx hb dX8_openItem_70 (by decide) (fun c8 => ?_) (fun c8 => ?_)
    · replace hM := if_f c8 hM
      refine lv_iload_n hx hb dX8_openItem_81 rfl (lv_at hl 1 rfl) ?_
      refine lv_iconst (v := 4) hx hb dX8_openItem_82 (by decide) ?_
      refine lv_icmp_ne (tgt := 94) hx hb dX8_openItem_83 (by decide) (fun c9 => ?_) (fun c9 => ?_)
      · replace hM := if_f c9 hM
        refine lv_iload_n hx hb dX8_openItem_94 rfl (lv_at hl 1 rfl) ?_
        refine lv_iconst (v := 5) hx hb dX8_openItem_95 (by decide) ?_
        refine lv_icmp_ne (tgt := 107) hx hb dX8_openItem_96 (by decide) (fun c10 => ?_) (fun c10 => ?_)
        · replace hM := if_f c10 hM
          refine lv_aload_n hx hb dX8_openItem_107 rfl (lv_at hl 0 rfl) ?_
          refine lv_iload_n hx hb dX8_openItem_108 rfl (lv_at hl 1 rfl) ?_
          refine lv_iload_n hx hb dX8_openItem_109 rfl (lv_at hl 2 rfl) ?_
          obtain ⟨r11, hcr11, hM⟩ := ob_use hM
          refine cl_V (As := [.int a1, .int a2]) (rest := []) (wM_CNTVI cI ad o_X o_L o_N o_T o_U o_O o_E o_Q o_V r11 o_C) [] ⟨hx, hb, hml, hown, hts⟩ (c_Model_openRow l D cI sd ad o_C o_X o_L o_N o_U o_O o_E o_Q o_V o_T o_I a1 a2 r11 hcr11) (cwV2 hts q1608 mvX8_openRow rfl rfl ⟨(Nat.le_of_ble_eq_true rfl), (Nat.le_of_ble_eq_true rfl)⟩) hK hE hA hP hD hS 0 (T := TX8) (N := 48) (ci := 8) rfl rfl [0, 7, 8, 9, 10, 11, 12, 13, 15, 16] rfl (by decide) (mrgE rfl rfl) rfl rfl rfl rfl rfl hl.1 (Nat.le_of_ble_eq_true rfl) dX8_openItem_110 ⟨Nat.zero_le _, Nat.zero_le _⟩ (fun H locs hP hD hS => ?_)
          cases hM
          exact rt_v hx hb hr hlk hP hD hS rfl dX8_openItem_113
        · replace hM := if_t c10 hM
          refine lv_aload_n hx hb dX8_openItem_99 rfl (lv_at hl 0 rfl) ?_
          refine lv_iload_n hx hb dX8_openItem_100 rfl (lv_at hl 2 rfl) ?_
          obtain ⟨r12, hcr12, hM⟩ := ob_use hM
          refine cl_V (As := [.int a2]) (rest := []) (wM_CNTVI cI ad o_X o_L o_N o_T o_U o_O o_E o_Q o_V r12 o_C) [] ⟨hx, hb, hml, hown, hts⟩ (c_Model_openCase l D cI sd ad o_C o_X o_L o_N o_U o_O o_E o_Q o_V o_T o_I a2 r12 hcr12) (cwV2 hts q1604 mvX8_openCase rfl rfl ⟨(Nat.le_of_ble_eq_true rfl), (Nat.le_of_ble_eq_true rfl)⟩) hK hE hA hP hD hS 0 (T := TX8) (N := 48) (ci := 8) rfl rfl [0, 7, 8, 9, 10, 11, 12, 13, 15, 16] rfl (by decide) (mrgE rfl rfl) rfl rfl rfl rfl rfl hl.1 (Nat.le_of_ble_eq_true rfl) dX8_openItem_101 ⟨Nat.zero_le _, Nat.zero_le _⟩ (fun H locs hP hD hS => ?_)
          refine lv_goto (tgt := 113) hx hb dX8_openItem_104 (by decide) ?_
          cases hM
          exact rt_v hx hb hr hlk hP hD hS rfl dX8_openItem_113
      · replace hM := if_t c9 hM
        refine lv_aload_n hx hb dX8_openItem_86 rfl (lv_at hl 0 rfl) ?_
        refine lv_iload_n hx hb dX8_openItem_87 rfl (lv_at hl 2 rfl) ?_
        obtain ⟨r13, hcr13, hM⟩ := ob_use hM
        refine cl_V (As := [.int a2]) (rest := []) (wM_CNTVI cI ad o_X o_L o_N o_T o_U o_O o_E o_Q o_V r13 o_C) [] ⟨hx, hb, hml, hown, hts⟩ (c_Model_openIf l D cI sd ad o_C o_X o_L o_N o_U o_O o_E o_Q o_V o_T o_I a2 r13 hcr13) (cwV2 hts q1600 mvX8_openIf rfl rfl ⟨(Nat.le_of_ble_eq_true rfl), (Nat.le_of_ble_eq_true rfl)⟩) hK hE hA hP hD hS 0 (T := TX8) (N := 48) (ci := 8) rfl rfl [0, 7, 8, 9, 10, 11, 12, 13, 15, 16] rfl (by decide) (mrgE rfl rfl) rfl rfl rfl rfl rfl hl.1 (Nat.le_of_ble_eq_true rfl) dX8_openItem_88 ⟨Nat.zero_le _, Nat.zero_le _⟩ (fun H locs hP hD hS => ?_)
        refine lv_goto (tgt := 113) hx hb dX8_openItem_91 (by decide) ?_
        cases hM
        exact rt_v hx hb hr hlk hP hD hS rfl dX8_openItem_113
    · replace hM := if_t c8 hM
      refine lv_aload_n hx hb dX8_openItem_73 rfl (lv_at hl 0 rfl) ?_
      refine lv_iload_n hx hb dX8_openItem_74 rfl (lv_at hl 2 rfl) ?_
      obtain ⟨r14, hcr14, hM⟩ := ob_use hM
      refine cl_V (As := [.int a2]) (rest := []) (wM_CNTVI cI ad o_X o_L o_N o_T o_U o_O o_E o_Q r14.1 r14.2 o_C) [] ⟨hx, hb, hml, hown, hts⟩ (c_Model_openNode l D cI sd ad o_X o_L o_U o_O o_E o_Q o_C o_N o_T o_V o_I a2 r14 hcr14) (cwV2 hts q1543 mvX8_openNode rfl rfl ⟨(Nat.le_of_ble_eq_true rfl), (Nat.le_of_ble_eq_true rfl)⟩) hK hE hA hP hD hS 0 (T := TX8) (N := 48) (ci := 8) rfl rfl [0, 1, 2, 3, 4, 5, 6, 7, 8, 9, 10, 11, 12, 13, 14, 15, 16] (rng_hi (n := 17) rfl rfl) (by decide) (rng_rep (n := 17) rfl rfl rfl) rfl rfl rfl rfl rfl hl.1 (Nat.le_of_ble_eq_true rfl) dX8_openItem_75 ⟨Nat.zero_le _, Nat.zero_le _⟩ (fun H locs hP hD hS => ?_)
      refine lv_goto (tgt := 113) hx hb dX8_openItem_78 (by decide) ?_
      cases hM
      exact rt_v hx hb hr hlk hP hD hS rfl dX8_openItem_113
  · replace hM := if_t c7 hM
    refine lv_goto (tgt := 113) hx hb dX8_openItem_65 (by decide) ?_
    cases hM
    exact rt_v hx hb hr hlk hP hD hS rfl dX8_openItem_113

set_option maxHeartbeats 4000000 in
set_option maxRecDepth 100000 in
theorem c_Model_write (l : Launch) (D : va_G) (cI : ClassId) (sd : Nat → Nat) (ad : Nat → Nat) (o_X : S_MX) (o_L : S_ML) (o_U : S_MU) (o_O : S_MO) (o_E : S_ME) (o_C : S_MC) (o_N : S_MN) (o_T : S_MT) (o_Q : S_MQ) (o_V : S_MV) (o_I : S_MI) (res : Int32 × S_MV × S_MI) (hM : f_Model_write o_C o_N o_T o_Q o_V o_I = some res) : Ctr l D cI sd yX8_write (wsM yX8_write cX8_write 1 (Option.some Jvm.ClassFile.FieldType.int)) { frames := 7, cells := 0, slots := 0, locals := 150 } [.ref (ad 100)] (wM_CNTQVI cI ad o_X o_L o_N o_T o_U o_O o_E o_Q o_V o_I o_C) (wM_CNTQVI cI ad o_X o_L o_N o_T o_U o_O o_E o_Q res.2.1 res.2.2 o_C) (some (.int res.1)) := by
  refine Ctr.of (cc := cX8_write) (maxL := 1) (own := RX8) (by decide +kernel) rfl rfl (Nat.le_of_ble_eq_true rfl) ?_
  intro p e s m below meth c A ls hx hb hr hml hown hts hlk hK hE hA hP hD hS hl
  have hl : lv_has ls 1 [(0, .ref (ad 100))] := hl
  unfold f_Model_write at hM
  refine lv_aload_n hx hb dX8_write_0 rfl (lv_at hl 0 rfl) ?_
  refine va_get (D := D) (ci := 8) (v := .int o_Q.1) (C := RX8) (T := TX8) (N := 48) hx hb hts layX8 hown hK hP 0 rfl rfl 40 (by decide) (hts _ (inA q1018)) (fun _ h9 => h9) rfl dX8_write_1 ?_
  refine lv_if_ne (tgt := 9) hx hb dX8_write_4 (by decide) (fun c1 => ?_) (fun c1 => ?_)
  · replace hM := if_f c1 hM
    refine lv_aload_n hx hb dX8_write_9 rfl (lv_at hl 0 rfl) ?_
    refine lv_iconst (v := 0) hx hb dX8_write_10 (by decide) ?_
    refine va_put (D := D) (ci := 8) (v := .int 0) (ty := .int) (C := RX8) (T := TX8) (N := 48) hx hb hts layX8 tyX8 tyX8_ok nmX8 hown hK hP hD hS 0 rfl rfl 43 (by decide) (hts _ (inA q1021)) (fun _ h9 => h9) rfl (by decide +kernel) rfl rfl (Nat.le_of_ble_eq_true rfl) dX8_write_11 (fun H locs hP hD hS => ?_)
    have hP : va_P D vwCl (wM_CNTQVI cI ad o_X o_L o_N o_T o_U o_O o_E o_Q (0, o_V.2) o_I o_C) H := hP
    have hD : va_D A (wM_CNTQVI cI ad o_X o_L o_N o_T o_U o_O o_E o_Q (0, o_V.2) o_I o_C) := hD
    refine lv_aload_n hx hb dX8_write_14 rfl (lv_at hl 0 rfl) ?_
    refine lv_iconst (v := 0) hx hb dX8_write_15 (by decide) ?_
    refine va_put (D := D) (ci := 8) (v := .int 0) (ty := .int) (C := RX8) (T := TX8) (N := 48) hx hb hts layX8 tyX8 tyX8_ok nmX8 hown hK hP hD hS 0 rfl rfl 45 (by decide) (hts _ (inA q1023)) (fun _ h9 => h9) rfl (by decide +kernel) rfl rfl (Nat.le_of_ble_eq_true rfl) dX8_write_16 (fun H locs hP hD hS => ?_)
    have hP : va_P D vwCl (wM_CNTQVI cI ad o_X o_L o_N o_T o_U o_O o_E o_Q (0, o_V.2) (0, o_I.2) o_C) H := hP
    have hD : va_D A (wM_CNTQVI cI ad o_X o_L o_N o_T o_U o_O o_E o_Q (0, o_V.2) (0, o_I.2) o_C) := hD
    refine lv_aload_n hx hb dX8_write_19 rfl (lv_at hl 0 rfl) ?_
    refine lv_iconst (v := 1) hx hb dX8_write_20 (by decide) ?_
    refine lv_iconst (v := 0) hx hb dX8_write_21 (by decide) ?_
    obtain ⟨r2, hcr2, hM⟩ := ob_use hM
    refine cl_V (As := [.int 1, .int 0]) (rest := []) (wM_CNTQVI cI ad o_X o_L o_N o_T o_U o_O o_E o_Q (0, o_V.2) r2 o_C) [] ⟨hx, hb, hml, hown, hts⟩ (c_Model_item l D cI sd ad o_C o_X o_L o_N o_T o_U o_O o_E o_Q (0, o_V.2) (0, o_I.2) 1 0 r2 hcr2) (cwV2 hts q1512 mvX8_item rfl rfl ⟨(Nat.le_of_ble_eq_true rfl), (Nat.le_of_ble_eq_true rfl)⟩) hK hE hA hP hD hS 0 (T := TX8) (N := 48) (ci := 8) rfl rfl [0, 17, 18] rfl (by decide) rfl rfl rfl rfl rfl rfl hl.1 (Nat.le_of_ble_eq_true rfl) dX8_write_22 ⟨Nat.zero_le _, Nat.zero_le _⟩ (fun H locs hP hD hS => ?_)
    have lp_L25 : ∀ (o_C_L25 : S_MC) (o_N_L25 : S_MN) (o_T_L25 : S_MT) (o_Q_L25 : S_MQ) (n : Nat) (o_V_L25 : S_MV) (o_I_L25 : S_MI) (out_L25 : S_MV × S_MI) (H : Heap) (locs : List Loc) (ls : Array Slot), f_Model_write_L25 o_C_L25 o_N_L25 o_T_L25 n o_V_L25 o_I_L25 = some out_L25 → va_P D vwCl (wM_CNTQVI cI ad o_X o_L o_N_L25 o_T_L25 o_U o_O o_E o_Q_L25 o_V_L25 o_I_L25 o_C_L25) H → va_D A (wM_CNTQVI cI ad o_X o_L o_N_L25 o_T_L25 o_U o_O o_E o_Q_L25 o_V_L25 o_I_L25 o_C_L25) → va_S A s.heap H locs → lv_has ls 1 [(0, .ref (ad 100))] → (∀ (H : Heap) (locs : List Loc) (ls : Array Slot), va_P D vwCl (wM_CNTQVI cI ad o_X o_L o_N_L25 o_T_L25 o_U o_O o_E o_Q_L25 out_L25.1 out_L25.2 o_C_L25) H → va_D A (wM_CNTQVI cI ad o_X o_L o_N_L25 o_T_L25 o_U o_O o_E o_Q_L25 out_L25.1 out_L25.2 o_C_L25) → va_S A s.heap H locs → lv_has ls 1 [(0, .ref (ad 100))] → W p l e { frames := 7, cells := 0, slots := 0, locals := 150 } s m [.ref (ad 100)].toArray below meth c H locs 0 0 (MQ below (CQ D A (wM_CNTQVI cI ad o_X o_L o_N o_T o_U o_O o_E o_Q res.2.1 res.2.2 o_C) (some (.int res.1))) [.ref (ad 100)].toArray s 0 0 A) (F0 m 67 ls [])) → W p l e { frames := 7, cells := 0, slots := 0, locals := 150 } s m [.ref (ad 100)].toArray below meth c H locs 0 0 (MQ below (CQ D A (wM_CNTQVI cI ad o_X o_L o_N o_T o_U o_O o_E o_Q res.2.1 res.2.2 o_C) (some (.int res.1))) [.ref (ad 100)].toArray s 0 0 A) (F0 m 25 ls []) := by
      intro o_C_L25 o_N_L25 o_T_L25 o_Q_L25 n
      induction n with
      | zero => intro o_V_L25 o_I_L25 out_L25 H locs ls hM; exact absurd (show none = some _ from hM) (by simp)
      | succ n ih_L25 =>
        intro o_V_L25 o_I_L25 out_L25 H locs ls hM hP hD hS hl kx_L25
        rw [f_Model_write_L25] at hM
        refine lv_aload_n hx hb dX8_write_25 rfl (lv_at hl 0 rfl) ?_
        refine va_get (D := D) (ci := 8) (v := .int o_I_L25.1) (C := RX8) (T := TX8) (N := 48) hx hb hts layX8 hown hK hP 0 rfl rfl 45 (by decide) (hts _ (inA q1023)) (fun _ h9 => h9) rfl dX8_write_26 ?_
        refine lv_if_le (tgt := 67) hx hb dX8_write_29 (by decide) (fun c1351 => ?_) (fun c1351 => ?_)
        · replace hM := if_t c1351 hM
          cases hM
          exact kx_L25 _ _ _ hP hD hS (lv_sub hl [0] rfl)
        · replace hM := if_f c1351 hM
          refine lv_aload_n hx hb dX8_write_32 rfl (lv_at hl 0 rfl) ?_
          refine lv_dup hx hb dX8_write_33 rfl ?_
          refine va_get (D := D) (ci := 8) (v := .int o_I_L25.1) (C := RX8) (T := TX8) (N := 48) hx hb hts layX8 hown hK hP 0 rfl rfl 45 (by decide) (hts _ (inA q1023)) (fun _ h9 => h9) rfl dX8_write_34 ?_
          refine lv_iconst (v := 1) hx hb dX8_write_37 (by decide) ?_
          refine lv_isub hx hb dX8_write_38 ?_
          refine va_put (D := D) (ci := 8) (v := .int (o_I_L25.1 - 1)) (ty := .int) (C := RX8) (T := TX8) (N := 48) hx hb hts layX8 tyX8 tyX8_ok nmX8 hown hK hP hD hS 0 rfl rfl 45 (by decide) (hts _ (inA q1023)) (fun _ h9 => h9) rfl (by decide +kernel) rfl rfl (Nat.le_of_ble_eq_true rfl) dX8_write_39 (fun H locs hP hD hS => ?_)
          have hP : va_P D vwCl (wM_CNTQVI cI ad o_X o_L o_N_L25 o_T_L25 o_U o_O o_E o_Q_L25 o_V_L25 (o_I_L25.1 - 1, o_I_L25.2) o_C_L25) H := hP
          have hD : va_D A (wM_CNTQVI cI ad o_X o_L o_N_L25 o_T_L25 o_U o_O o_E o_Q_L25 o_V_L25 (o_I_L25.1 - 1, o_I_L25.2) o_C_L25) := hD
          refine lv_aload_n hx hb dX8_write_42 rfl (lv_at hl 0 rfl) ?_
          refine lv_aload_n hx hb dX8_write_43 rfl (lv_at hl 0 rfl) ?_
          refine va_get (D := D) (ci := 8) (v := .ref (ad 123)) (C := RX8) (T := TX8) (N := 48) hx hb hts layX8 hown hK hP 0 rfl rfl 46 (by decide) (hts _ (inA q1024)) (fun _ h9 => h9) rfl dX8_write_44 ?_
          refine lv_aload_n hx hb dX8_write_47 rfl (lv_at hl 0 rfl) ?_
          refine va_get (D := D) (ci := 8) (v := .int (o_I_L25.1 - 1)) (C := RX8) (T := TX8) (N := 48) hx hb hts layX8 hown hK hP 0 rfl rfl 45 (by decide) (hts _ (inA q1023)) (fun _ h9 => h9) rfl dX8_write_48 ?_
          obtain ⟨b1352, hM⟩ := gd_use hM
          refine va_iald hx hb hK hP 17 0 rfl rfl b1352 dX8_write_51 ?_
          refine lv_aload_n hx hb dX8_write_52 rfl (lv_at hl 0 rfl) ?_
          refine va_get (D := D) (ci := 8) (v := .ref (ad 124)) (C := RX8) (T := TX8) (N := 48) hx hb hts layX8 hown hK hP 0 rfl rfl 47 (by decide) (hts _ (inA q1025)) (fun _ h9 => h9) rfl dX8_write_53 ?_
          refine lv_aload_n hx hb dX8_write_56 rfl (lv_at hl 0 rfl) ?_
          refine va_get (D := D) (ci := 8) (v := .int (o_I_L25.1 - 1)) (C := RX8) (T := TX8) (N := 48) hx hb hts layX8 hown hK hP 0 rfl rfl 45 (by decide) (hts _ (inA q1023)) (fun _ h9 => h9) rfl dX8_write_57 ?_
          obtain ⟨b1353, hM⟩ := gd_use hM
          refine va_iald hx hb hK hP 18 0 rfl rfl b1353 dX8_write_60 ?_
          obtain ⟨r1354, hcr1354, hM⟩ := ob_use hM
          refine cl_V (As := [.int (o_I_L25.2.1 (o_I_L25.1 - 1).toNatClampNeg), .int (o_I_L25.2.2 (o_I_L25.1 - 1).toNatClampNeg)]) (rest := []) (wM_CNTQVI cI ad o_X o_L o_N_L25 o_T_L25 o_U o_O o_E o_Q_L25 r1354.1 r1354.2 o_C_L25) [] ⟨hx, hb, hml, hown, hts⟩ (c_Model_openItem l D cI sd ad o_X o_L o_U o_O o_E o_Q_L25 o_C_L25 o_N_L25 o_T_L25 o_V_L25 (o_I_L25.1 - 1, o_I_L25.2) (o_I_L25.2.1 (o_I_L25.1 - 1).toNatClampNeg) (o_I_L25.2.2 (o_I_L25.1 - 1).toNatClampNeg) r1354 hcr1354) (cwV2 hts q1516 mvX8_openItem rfl rfl ⟨(Nat.le_of_ble_eq_true rfl), (Nat.le_of_ble_eq_true rfl)⟩) hK hE hA hP hD hS 0 (T := TX8) (N := 48) (ci := 8) rfl rfl [0, 1, 2, 3, 4, 5, 6, 7, 8, 9, 10, 11, 12, 13, 16, 17, 18] rfl (by decide) (mrgE rfl rfl) rfl rfl rfl rfl rfl hl.1 (Nat.le_of_ble_eq_true rfl) dX8_write_61 ⟨Nat.zero_le _, Nat.zero_le _⟩ (fun H locs hP hD hS => ?_)
          refine lv_goto (tgt := 25) hx hb dX8_write_64 (by decide) ?_
          exact ih_L25 r1354.1 r1354.2 out_L25 _ _ _ hM hP hD hS (lv_sub hl [0] rfl) kx_L25
    obtain ⟨r3, hcr3, hM⟩ := ob_use hM
    refine lp_L25 o_C o_N o_T o_Q FU (0, o_V.2) r2 r3 _ _ _ hcr3 hP hD hS (lv_sub hl [0] rfl) (fun H locs ls hP hD hS hl => ?_)
    refine lv_aload_n hx hb dX8_write_67 rfl (lv_at hl 0 rfl) ?_
    refine va_get (D := D) (ci := 8) (v := .int r3.1.1) (C := RX8) (T := TX8) (N := 48) hx hb hts layX8 hown hK hP 0 rfl rfl 43 (by decide) (hts _ (inA q1021)) (fun _ h9 => h9) rfl dX8_write_68 ?_
    cases hM
    exact rt_i hx hb hr hlk hP hD hS rfl dX8_write_71
  · replace hM := if_t c1 hM
    refine lv_iconst (v := (-1)) hx hb dX8_write_7 (by decide) ?_
    cases hM
    exact rt_i hx hb hr hlk hP hD hS rfl dX8_write_8

set_option maxHeartbeats 4000000 in
set_option maxRecDepth 100000 in
theorem c_Model_byteAt (l : Launch) (D : va_G) (cI : ClassId) (sd : Nat → Nat) (ad : Nat → Nat) (o_C : S_MC) (o_X : S_MX) (o_L : S_ML) (o_N : S_MN) (o_T : S_MT) (o_U : S_MU) (o_O : S_MO) (o_E : S_ME) (o_Q : S_MQ) (o_I : S_MI) (o_V : S_MV) (a1 : Int32) (res : Int32) (hM : f_Model_byteAt o_V a1 = some res) : Ctr l D cI sd yX8_byteAt (wsM yX8_byteAt cX8_byteAt 2 (Option.some Jvm.ClassFile.FieldType.int)) { frames := 0, cells := 0, slots := 0, locals := 0 } [.ref (ad 100), .int a1] (wM_V cI ad o_X o_L o_N o_T o_U o_O o_E o_Q o_V o_I) (wM_V cI ad o_X o_L o_N o_T o_U o_O o_E o_Q o_V o_I) (some (.int res)) := by
  refine Ctr.of (cc := cX8_byteAt) (maxL := 2) (own := RX8) (by decide +kernel) rfl rfl (Nat.le_of_ble_eq_true rfl) ?_
  intro p e s m below meth c A ls hx hb hr hml hown hts hlk hK hE hA hP hD hS hl
  have hl : lv_has ls 2 [(0, .ref (ad 100)), (1, .int a1)] := hl
  unfold f_Model_byteAt at hM
  refine lv_iload_n hx hb dX8_byteAt_0 rfl (lv_at hl 1 rfl) ?_
  refine lv_if_lt (tgt := 12) hx hb dX8_byteAt_1 (by decide) (fun c1 => ?_) (fun c1 => ?_)
  · replace hM := if_t c1 hM
    refine lv_iconst (v := (-1)) hx hb dX8_byteAt_12 (by decide) ?_
    refine lv_goto (tgt := 22) hx hb dX8_byteAt_13 (by decide) ?_
    cases hM
    exact rt_i hx hb hr hlk hP hD hS rfl dX8_byteAt_22
  · replace hM := if_f c1 hM
    refine lv_iload_n hx hb dX8_byteAt_4 rfl (lv_at hl 1 rfl) ?_
    refine lv_aload_n hx hb dX8_byteAt_5 rfl (lv_at hl 0 rfl) ?_
    refine va_get (D := D) (ci := 8) (v := .int o_V.1) (C := RX8) (T := TX8) (N := 48) hx hb hts layX8 hown hK hP 0 rfl rfl 43 (by decide) (hts _ (inA q1021)) (fun _ h9 => h9) rfl dX8_byteAt_6 ?_
    refine lv_icmp_lt (tgt := 16) hx hb dX8_byteAt_9 (by decide) (fun c2 => ?_) (fun c2 => ?_)
    · replace hM := if_t c2 hM
      refine lv_aload_n hx hb dX8_byteAt_16 rfl (lv_at hl 0 rfl) ?_
      refine va_get (D := D) (ci := 8) (v := .ref (ad 122)) (C := RX8) (T := TX8) (N := 48) hx hb hts layX8 hown hK hP 0 rfl rfl 44 (by decide) (hts _ (inA q1022)) (fun _ h9 => h9) rfl dX8_byteAt_17 ?_
      refine lv_iload_n hx hb dX8_byteAt_20 rfl (lv_at hl 1 rfl) ?_
      obtain ⟨b3, hM⟩ := gd_use hM
      refine va_iald hx hb hK hP 1 0 rfl rfl b3 dX8_byteAt_21 ?_
      cases hM
      exact rt_i hx hb hr hlk hP hD hS rfl dX8_byteAt_22
    · replace hM := if_f c2 hM
      refine lv_iconst (v := (-1)) hx hb dX8_byteAt_12 (by decide) ?_
      refine lv_goto (tgt := 22) hx hb dX8_byteAt_13 (by decide) ?_
      cases hM
      exact rt_i hx hb hr hlk hP hD hS rfl dX8_byteAt_22

set_option maxHeartbeats 4000000 in
set_option maxRecDepth 100000 in
theorem c_Model_back (l : Launch) (D : va_G) (cI : ClassId) (sd : Nat → Nat) (ad : Nat → Nat) (o_C : S_MC) (o_L : S_ML) (o_N : S_MN) (o_T : S_MT) (o_U : S_MU) (o_O : S_MO) (o_E : S_ME) (o_Q : S_MQ) (o_I : S_MI) (o_X : S_MX) (o_V : S_MV) (res : Int32 × S_MX) (hM : f_Model_back o_X o_V = some res) : Ctr l D cI sd yX8_back (wsM yX8_back cX8_back 2 (Option.some Jvm.ClassFile.FieldType.int)) { frames := 0, cells := 0, slots := 0, locals := 0 } [.ref (ad 100)] (wM_XV cI ad o_X o_L o_N o_T o_U o_O o_E o_Q o_V o_I) (wM_XV cI ad res.2 o_L o_N o_T o_U o_O o_E o_Q o_V o_I) (some (.int res.1)) := by
  refine Ctr.of (cc := cX8_back) (maxL := 2) (own := RX8) (by decide +kernel) rfl rfl (Nat.le_of_ble_eq_true rfl) ?_
  intro p e s m below meth c A ls hx hb hr hml hown hts hlk hK hE hA hP hD hS hl
  have hl : lv_has ls 2 [(0, .ref (ad 100))] := hl
  unfold f_Model_back at hM
  refine lv_aload_n hx hb dX8_back_0 rfl (lv_at hl 0 rfl) ?_
  refine va_get (D := D) (ci := 8) (v := .int o_V.1) (C := RX8) (T := TX8) (N := 48) hx hb hts layX8 hown hK hP 0 rfl rfl 43 (by decide) (hts _ (inA q1021)) (fun _ h9 => h9) rfl dX8_back_1 ?_
  refine lv_if_eq (tgt := 17) hx hb dX8_back_4 (by decide) (fun c1 => ?_) (fun c1 => ?_)
  · replace hM := if_t c1 hM
    refine lv_iconst (v := (-1)) hx hb dX8_back_17 (by decide) ?_
    cases hM
    exact rt_i hx hb hr hlk hP hD hS rfl dX8_back_18
  · replace hM := if_f c1 hM
    refine lv_aload_n hx hb dX8_back_7 rfl (lv_at hl 0 rfl) ?_
    refine va_get (D := D) (ci := 8) (v := .int o_V.1) (C := RX8) (T := TX8) (N := 48) hx hb hts layX8 hown hK hP 0 rfl rfl 43 (by decide) (hts _ (inA q1021)) (fun _ h9 => h9) rfl dX8_back_8 ?_
    refine lv_sipush (v := 8192) hx hb dX8_back_11 (by decide) ?_
    refine lv_icmp_le (tgt := 19) hx hb dX8_back_14 (by decide) (fun c2 => ?_) (fun c2 => ?_)
    · replace hM := if_t c2 hM
      refine lv_iconst (v := 0) hx hb dX8_back_19 (by decide) ?_
      refine lv_istore_n (lv' := [(1, .int 0), (0, .ref (ad 100))]) hx hb dX8_back_20 rfl hl (by decide) rfl (fun ls hl => ?_)
      have lp_L21 : ∀ (o_V_L21 : S_MV) (n : Nat) (v1_L21 : Int32) (o_X_L21 : S_MX) (out_L21 : S_MX) (H : Heap) (locs : List Loc) (ls : Array Slot), f_Model_back_L21 o_V_L21 n v1_L21 o_X_L21 = some out_L21 → va_P D vwCl (wM_XV cI ad o_X_L21 o_L o_N o_T o_U o_O o_E o_Q o_V_L21 o_I) H → va_D A (wM_XV cI ad o_X_L21 o_L o_N o_T o_U o_O o_E o_Q o_V_L21 o_I) → va_S A s.heap H locs → lv_has ls 2 [(1, .int v1_L21), (0, .ref (ad 100))] → (∀ (H : Heap) (locs : List Loc) (ls : Array Slot), va_P D vwCl (wM_XV cI ad out_L21 o_L o_N o_T o_U o_O o_E o_Q o_V_L21 o_I) H → va_D A (wM_XV cI ad out_L21 o_L o_N o_T o_U o_O o_E o_Q o_V_L21 o_I) → va_S A s.heap H locs → lv_has ls 2 [(0, .ref (ad 100))] → W p l e { frames := 0, cells := 0, slots := 0, locals := 0 } s m [.ref (ad 100)].toArray below meth c H locs 0 0 (MQ below (CQ D A (wM_XV cI ad res.2 o_L o_N o_T o_U o_O o_E o_Q o_V o_I) (some (.int res.1))) [.ref (ad 100)].toArray s 0 0 A) (F0 m 47 ls [])) → W p l e { frames := 0, cells := 0, slots := 0, locals := 0 } s m [.ref (ad 100)].toArray below meth c H locs 0 0 (MQ below (CQ D A (wM_XV cI ad res.2 o_L o_N o_T o_U o_O o_E o_Q o_V o_I) (some (.int res.1))) [.ref (ad 100)].toArray s 0 0 A) (F0 m 21 ls []) := by
        intro o_V_L21 n
        induction n with
        | zero => intro v1_L21 o_X_L21 out_L21 H locs ls hM; exact absurd (show none = some _ from hM) (by simp)
        | succ n ih_L21 =>
          intro v1_L21 o_X_L21 out_L21 H locs ls hM hP hD hS hl kx_L21
          rw [f_Model_back_L21] at hM
          refine lv_iload_n hx hb dX8_back_21 rfl (lv_at hl 0 rfl) ?_
          refine lv_aload_n hx hb dX8_back_22 rfl (lv_at hl 1 rfl) ?_
          refine va_get (D := D) (ci := 8) (v := .int o_V_L21.1) (C := RX8) (T := TX8) (N := 48) hx hb hts layX8 hown hK hP 0 rfl rfl 43 (by decide) (hts _ (inA q1021)) (fun _ h9 => h9) rfl dX8_back_23 ?_
          refine lv_icmp_ge (tgt := 47) hx hb dX8_back_26 (by decide) (fun c1311 => ?_) (fun c1311 => ?_)
          · replace hM := if_t c1311 hM
            cases hM
            exact kx_L21 _ _ _ hP hD hS (lv_sub hl [1] rfl)
          · replace hM := if_f c1311 hM
            refine lv_aload_n hx hb dX8_back_29 rfl (lv_at hl 1 rfl) ?_
            refine va_get (D := D) (ci := 8) (v := .ref (ad 105)) (C := RX8) (T := TX8) (N := 48) hx hb hts layX8 hown hK hP 0 rfl rfl 5 (by decide) (hts _ (inA q983)) (fun _ h9 => h9) rfl dX8_back_30 ?_
            refine lv_iload_n hx hb dX8_back_33 rfl (lv_at hl 0 rfl) ?_
            refine lv_aload_n hx hb dX8_back_34 rfl (lv_at hl 1 rfl) ?_
            refine va_get (D := D) (ci := 8) (v := .ref (ad 122)) (C := RX8) (T := TX8) (N := 48) hx hb hts layX8 hown hK hP 0 rfl rfl 44 (by decide) (hts _ (inA q1022)) (fun _ h9 => h9) rfl dX8_back_35 ?_
            refine lv_iload_n hx hb dX8_back_38 rfl (lv_at hl 0 rfl) ?_
            obtain ⟨b1312, hM⟩ := gd_use hM
            refine va_iald hx hb hK hP 2 0 rfl rfl b1312 dX8_back_39 ?_
            refine lv_topi (fun x1314 ex1314 => ?_)
            replace hM := nm_use ex1314 hM
            obtain ⟨b1313, hM⟩ := gd_use hM
            refine va_iast hx hb hK hP hD hS 1 0 rfl rfl b1313 dX8_back_40 (fun H locs hP hD hS => ?_)
            have hP : va_P D vwCl (wM_XV cI ad (o_X_L21.1, upd o_X_L21.2 v1_L21.toNatClampNeg x1314) o_L o_N o_T o_U o_O o_E o_Q o_V_L21 o_I) H := hP
            have hD : va_D A (wM_XV cI ad (o_X_L21.1, upd o_X_L21.2 v1_L21.toNatClampNeg x1314) o_L o_N o_T o_U o_O o_E o_Q o_V_L21 o_I) := hD
            obtain ⟨x1315, ex1315⟩ : ∃ y : Int32, y = v1_L21 + 1 := ⟨_, rfl⟩
            replace hM := nm_use ex1315 hM
            refine lv_iinc (v := x1315) (lv' := [(1, .int x1315), (0, .ref (ad 100))]) hx hb dX8_back_41 hl (k := 0) rfl (by rw [ex1315]; rfl) (by decide) rfl (fun ls hl => ?_)
            refine lv_goto (tgt := 21) hx hb dX8_back_44 (by decide) ?_
            exact ih_L21 x1315 (o_X_L21.1, upd o_X_L21.2 v1_L21.toNatClampNeg x1314) out_L21 _ _ _ hM hP hD hS (lv_sub hl [0, 1] rfl) kx_L21
      obtain ⟨r3, hcr3, hM⟩ := ob_use hM
      refine lp_L21 o_V FU 0 o_X r3 _ _ _ hcr3 hP hD hS (lv_sub hl [0, 1] rfl) (fun H locs ls hP hD hS hl => ?_)
      refine lv_aload_n hx hb dX8_back_47 rfl (lv_at hl 0 rfl) ?_
      refine lv_aload_n hx hb dX8_back_48 rfl (lv_at hl 0 rfl) ?_
      refine va_get (D := D) (ci := 8) (v := .int o_V.1) (C := RX8) (T := TX8) (N := 48) hx hb hts layX8 hown hK hP 0 rfl rfl 43 (by decide) (hts _ (inA q1021)) (fun _ h9 => h9) rfl dX8_back_49 ?_
      refine va_put (D := D) (ci := 8) (v := .int o_V.1) (ty := .int) (C := RX8) (T := TX8) (N := 48) hx hb hts layX8 tyX8 tyX8_ok nmX8 hown hK hP hD hS 0 rfl rfl 4 (by decide) (hts _ (inA q982)) (fun _ h9 => h9) rfl (by decide +kernel) rfl rfl (Nat.le_of_ble_eq_true rfl) dX8_back_52 (fun H locs hP hD hS => ?_)
      have hP : va_P D vwCl (wM_XV cI ad (o_V.1, r3.2) o_L o_N o_T o_U o_O o_E o_Q o_V o_I) H := hP
      have hD : va_D A (wM_XV cI ad (o_V.1, r3.2) o_L o_N o_T o_U o_O o_E o_Q o_V o_I) := hD
      refine lv_aload_n hx hb dX8_back_55 rfl (lv_at hl 0 rfl) ?_
      refine va_get (D := D) (ci := 8) (v := .int o_V.1) (C := RX8) (T := TX8) (N := 48) hx hb hts layX8 hown hK hP 0 rfl rfl 4 (by decide) (hts _ (inA q982)) (fun _ h9 => h9) rfl dX8_back_56 ?_
      cases hM
      exact rt_i hx hb hr hlk hP hD hS rfl dX8_back_59
    · replace hM := if_f c2 hM
      refine lv_iconst (v := (-1)) hx hb dX8_back_17 (by decide) ?_
      cases hM
      exact rt_i hx hb hr hlk hP hD hS rfl dX8_back_18

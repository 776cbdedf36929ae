set_option maxHeartbeats 4000000 in
set_option maxRecDepth 100000 in
theorem c_Model_signRest (l : Launch) (D : va_G) (cI : ClassId) (sd : Nat → Nat) (ad : Nat → Nat) (o_Q : S_MQ) (o_V : S_MV) (o_I : S_MI) (o_C : S_MC) (o_X : S_MX) (o_L : S_ML) (o_N : S_MN) (o_T : S_MT) (o_U : S_MU) (o_O : S_MO) (o_E : S_ME) (res : S_ML × S_MN × S_MT × S_MU × S_MO × S_ME) (hM : f_Model_signRest o_C o_X o_L o_N o_T o_U o_O o_E = some res) : Ctr l D cI sd yX8_signRest (wsM yX8_signRest cX8_signRest 2 (Option.none : Option Jvm.ClassFile.FieldType)) { frames := 5, cells := 0, slots := 0, locals := 112 } [.ref (ad 100)] (wM_CXLNTUOE cI ad o_X o_L o_N o_T o_U o_O o_E o_Q o_V o_I o_C) (wM_CXLNTUOE cI ad o_X res.1 res.2.1 res.2.2.1 res.2.2.2.1 res.2.2.2.2.1 res.2.2.2.2.2 o_Q o_V o_I o_C) none := by
  refine Ctr.of (cc := cX8_signRest) (maxL := 2) (own := RX8) (by decide +kernel) rfl rfl (Nat.le_of_ble_eq_true rfl) ?_
  intro p e s m below meth c A ls hx hb hr hml hown hts hlk hK hE hA hP hD hS hl
  have hl : lv_has ls 2 [(0, .ref (ad 100))] := hl
  unfold f_Model_signRest at hM
  refine lv_aload_n hx hb dX8_signRest_0 rfl (lv_at hl 0 rfl) ?_
  obtain ⟨r1, hcr1, hM⟩ := ob_use hM
  refine cl_V (As := []) (rest := []) (wM_CXLNTUOE cI ad o_X o_L o_N o_T o_U o_O o_E o_Q o_V o_I o_C) (.int r1 :: []) ⟨hx, hb, hml, hown, hts⟩ (c_Model_signAt l D cI sd ad o_C o_X o_N o_T o_U o_O o_E o_Q o_V o_I o_L r1 hcr1) (cwV2 hts q1409 mvX8_signAt rfl rfl ⟨(Nat.le_of_ble_eq_true rfl), (Nat.le_of_ble_eq_true rfl)⟩) hK hE hA hP hD hS 0 (T := TX8) (N := 48) (ci := 8) rfl rfl [0] rfl (by decide) rfl rfl rfl rfl rfl rfl hl.1 (Nat.le_of_ble_eq_true rfl) dX8_signRest_1 ⟨Nat.zero_le _, Nat.zero_le _⟩ (fun H locs hP hD hS => ?_)
  refine lv_istore_n (lv' := [(1, .int r1), (0, .ref (ad 100))]) hx hb dX8_signRest_4 rfl hl (by decide) rfl (fun ls hl => ?_)
  refine lv_iload_n hx hb dX8_signRest_5 rfl (lv_at hl 0 rfl) ?_
  refine lv_if_lt (tgt := 92) hx hb dX8_signRest_6 (by decide) (fun c2 => ?_) (fun c2 => ?_)
  · replace hM := if_t c2 hM
    have lp_L92 : ∀ (o_C_L92 : S_MC) (o_X_L92 : S_MX) (o_L_L92 : S_ML) (o_N_L92 : S_MN) (o_U_L92 : S_MU) (n : Nat) (o_T_L92 : S_MT) (o_O_L92 : S_MO) (o_E_L92 : S_ME) (out_L92 : S_MT × S_MO × S_ME) (H : Heap) (locs : List Loc) (ls : Array Slot), f_Model_signRest_L92 n o_T_L92 o_O_L92 o_E_L92 = some out_L92 → va_P D vwCl (wM_CXLNTUOE cI ad o_X_L92 o_L_L92 o_N_L92 o_T_L92 o_U_L92 o_O_L92 o_E_L92 o_Q o_V o_I o_C_L92) H → va_D A (wM_CXLNTUOE cI ad o_X_L92 o_L_L92 o_N_L92 o_T_L92 o_U_L92 o_O_L92 o_E_L92 o_Q o_V o_I o_C_L92) → va_S A s.heap H locs → lv_has ls 2 [(0, .ref (ad 100))] → (∀ (H : Heap) (locs : List Loc) (ls : Array Slot), va_P D vwCl (wM_CXLNTUOE cI ad o_X_L92 o_L_L92 o_N_L92 out_L92.1 o_U_L92 out_L92.2.1 out_L92.2.2 o_Q o_V o_I o_C_L92) H → va_D A (wM_CXLNTUOE cI ad o_X_L92 o_L_L92 o_N_L92 out_L92.1 o_U_L92 out_L92.2.1 out_L92.2.2 o_Q o_V o_I o_C_L92) → va_S A s.heap H locs → lv_has ls 2 [(0, .ref (ad 100))] → W p l e { frames := 5, cells := 0, slots := 0, locals := 112 } s m [.ref (ad 100)].toArray below meth c H locs 0 0 (MQ below (CQ D A (wM_CXLNTUOE cI ad o_X res.1 res.2.1 res.2.2.1 res.2.2.2.1 res.2.2.2.2.1 res.2.2.2.2.2 o_Q o_V o_I o_C) none) [.ref (ad 100)].toArray s 0 0 A) (F0 m 113 ls [])) → W p l e { frames := 5, cells := 0, slots := 0, locals := 112 } s m [.ref (ad 100)].toArray below meth c H locs 0 0 (MQ below (CQ D A (wM_CXLNTUOE cI ad o_X res.1 res.2.1 res.2.2.1 res.2.2.2.1 res.2.2.2.2.1 res.2.2.2.2.2 o_Q o_V o_I o_C) none) [.ref (ad 100)].toArray s 0 0 A) (F0 m 92 ls []) := by
      intro o_C_L92 o_X_L92 o_L_L92 o_N_L92 o_U_L92 n
      induction n with
      | zero => intro o_T_L92 o_O_L92 o_E_L92 out_L92 H locs ls hM; exact absurd (show none = some _ from hM) (by simp)
      | succ n ih_L92 =>
        intro o_T_L92 o_O_L92 o_E_L92 out_L92 H locs ls hM hP hD hS hl kx_L92
        rw [f_Model_signRest_L92] at hM
        refine lv_aload_n hx hb dX8_signRest_92 rfl (lv_at hl 0 rfl) ?_
        refine va_get (D := D) (ci := 8) (v := .ref (ad 117)) (C := RX8) (T := TX8) (N := 48) hx hb hts layX8 hown hK hP 0 rfl rfl 36 (by decide) (hts _ (inA q1014)) (fun _ h9 => h9) rfl dX8_signRest_93 ?_
        refine lv_aload_n hx hb dX8_signRest_96 rfl (lv_at hl 0 rfl) ?_
        refine va_get (D := D) (ci := 8) (v := .int o_E_L92.2.1) (C := RX8) (T := TX8) (N := 48) hx hb hts layX8 hown hK hP 0 rfl rfl 35 (by decide) (hts _ (inA q1013)) (fun _ h9 => h9) rfl dX8_signRest_97 ?_
        refine lv_iconst (v := 1) hx hb dX8_signRest_100 (by decide) ?_
        refine lv_isub hx hb dX8_signRest_101 ?_
        obtain ⟨b2021, hM⟩ := gd_use hM
        refine va_iald hx hb hK hP 17 0 rfl rfl b2021 dX8_signRest_102 ?_
        refine lv_if_lt (tgt := 113) hx hb dX8_signRest_103 (by decide) (fun c2022 => ?_) (fun c2022 => ?_)
        · replace hM := if_t c2022 hM
          cases hM
          exact kx_L92 _ _ _ hP hD hS (lv_sub hl [0] rfl)
        · replace hM := if_f c2022 hM
          refine lv_aload_n hx hb dX8_signRest_106 rfl (lv_at hl 0 rfl) ?_
          obtain ⟨r2023, hcr2023, hM⟩ := ob_use hM
          refine cl_V (As := []) (rest := []) (wM_CXLNTUOE cI ad o_X_L92 o_L_L92 o_N_L92 r2023.1 o_U_L92 r2023.2.1 r2023.2.2 o_Q o_V o_I o_C_L92) [] ⟨hx, hb, hml, hown, hts⟩ (c_Model_settle l D cI sd ad o_C_L92 o_X_L92 o_L_L92 o_N_L92 o_U_L92 o_Q o_V o_I o_T_L92 o_O_L92 o_E_L92 r2023 hcr2023) (cwV2 hts q1397 mvX8_settle rfl rfl ⟨(Nat.le_of_ble_eq_true rfl), (Nat.le_of_ble_eq_true rfl)⟩) hK hE hA hP hD hS 0 (T := TX8) (N := 48) (ci := 8) rfl rfl [0, 8, 9, 10, 11, 12, 13, 14, 16, 17, 18, 19] rfl (by decide) (mrgE rfl rfl) rfl rfl rfl rfl rfl hl.1 (Nat.le_of_ble_eq_true rfl) dX8_signRest_107 ⟨Nat.zero_le _, Nat.zero_le _⟩ (fun H locs hP hD hS => ?_)
          refine lv_goto (tgt := 92) hx hb dX8_signRest_110 (by decide) ?_
          exact ih_L92 r2023.1 r2023.2.1 r2023.2.2 out_L92 _ _ _ hM hP hD hS (lv_sub hl [0] rfl) kx_L92
    obtain ⟨r3, hcr3, hM⟩ := ob_use hM
    refine lp_L92 o_C o_X o_L o_N o_U FU o_T o_O o_E r3 _ _ _ hcr3 hP hD hS (lv_sub hl [1] rfl) (fun H locs ls hP hD hS hl => ?_)
    refine lv_aload_n hx hb dX8_signRest_113 rfl (lv_at hl 0 rfl) ?_
    refine lv_dup hx hb dX8_signRest_114 rfl ?_
    refine va_get (D := D) (ci := 8) (v := .int r3.2.2.2.1) (C := RX8) (T := TX8) (N := 48) hx hb hts layX8 hown hK hP 0 rfl rfl 35 (by decide) (hts _ (inA q1013)) (fun _ h9 => h9) rfl dX8_signRest_115 ?_
    refine lv_iconst (v := 1) hx hb dX8_signRest_118 (by decide) ?_
    refine lv_isub hx hb dX8_signRest_119 ?_
    refine va_put (D := D) (ci := 8) (v := .int (r3.2.2.2.1 - 1)) (ty := .int) (C := RX8) (T := TX8) (N := 48) hx hb hts layX8 tyX8 tyX8_ok nmX8 hown hK hP hD hS 0 rfl rfl 35 (by decide) (hts _ (inA q1013)) (fun _ h9 => h9) rfl (by decide +kernel) rfl rfl (Nat.le_of_ble_eq_true rfl) dX8_signRest_120 (fun H locs hP hD hS => ?_)
    have hP : va_P D vwCl (wM_CXLNTUOE cI ad o_X o_L o_N r3.1 o_U r3.2.1 (r3.2.2.1, r3.2.2.2.1 - 1, r3.2.2.2.2) o_Q o_V o_I o_C) H := hP
    have hD : va_D A (wM_CXLNTUOE cI ad o_X o_L o_N r3.1 o_U r3.2.1 (r3.2.2.1, r3.2.2.2.1 - 1, r3.2.2.2.2) o_Q o_V o_I o_C) := hD
    refine lv_aload_n hx hb dX8_signRest_123 rfl (lv_at hl 0 rfl) ?_
    refine lv_dup hx hb dX8_signRest_124 rfl ?_
    refine va_get (D := D) (ci := 8) (v := .int r3.2.1.2.2.1) (C := RX8) (T := TX8) (N := 48) hx hb hts layX8 hown hK hP 0 rfl rfl 29 (by decide) (hts _ (inA q1007)) (fun _ h9 => h9) rfl dX8_signRest_125 ?_
    refine lv_iconst (v := 1) hx hb dX8_signRest_128 (by decide) ?_
    refine lv_isub hx hb dX8_signRest_129 ?_
    refine va_put (D := D) (ci := 8) (v := .int (r3.2.1.2.2.1 - 1)) (ty := .int) (C := RX8) (T := TX8) (N := 48) hx hb hts layX8 tyX8 tyX8_ok nmX8 hown hK hP hD hS 0 rfl rfl 29 (by decide) (hts _ (inA q1007)) (fun _ h9 => h9) rfl (by decide +kernel) rfl rfl (Nat.le_of_ble_eq_true rfl) dX8_signRest_130 (fun H locs hP hD hS => ?_)
    have hP : va_P D vwCl (wM_CXLNTUOE cI ad o_X o_L o_N r3.1 o_U (r3.2.1.1, r3.2.1.2.1, r3.2.1.2.2.1 - 1, r3.2.1.2.2.2) (r3.2.2.1, r3.2.2.2.1 - 1, r3.2.2.2.2) o_Q o_V o_I o_C) H := hP
    have hD : va_D A (wM_CXLNTUOE cI ad o_X o_L o_N r3.1 o_U (r3.2.1.1, r3.2.1.2.1, r3.2.1.2.2.1 - 1, r3.2.1.2.2.2) (r3.2.2.1, r3.2.2.2.1 - 1, r3.2.2.2.2) o_Q o_V o_I o_C) := hD
    refine lv_aload_n hx hb dX8_signRest_133 rfl (lv_at hl 0 rfl) ?_
    refine va_get (D := D) (ci := 8) (v := .int (r3.2.1.2.2.1 - 1)) (C := RX8) (T := TX8) (N := 48) hx hb hts layX8 hown hK hP 0 rfl rfl 29 (by decide) (hts _ (inA q1007)) (fun _ h9 => h9) rfl dX8_signRest_134 ?_
    refine lv_if_ne (tgt := 158) hx hb dX8_signRest_137 (by decide) (fun c4 => ?_) (fun c4 => ?_)
    · replace hM := if_f c4 hM
      cases hM
      exact rt_v hx hb hr hlk hP hD hS rfl dX8_signRest_158
    · replace hM := if_t c4 hM
      refine lv_aload_n hx hb dX8_signRest_140 rfl (lv_at hl 0 rfl) ?_
      refine lv_dup hx hb dX8_signRest_141 rfl ?_
      refine va_get (D := D) (ci := 8) (v := .int r3.2.1.1) (C := RX8) (T := TX8) (N := 48) hx hb hts layX8 hown hK hP 0 rfl rfl 27 (by decide) (hts _ (inA q1005)) (fun _ h9 => h9) rfl dX8_signRest_142 ?_
      refine lv_aload_n hx hb dX8_signRest_145 rfl (lv_at hl 0 rfl) ?_
      refine va_get (D := D) (ci := 8) (v := .int r3.2.1.2.1) (C := RX8) (T := TX8) (N := 48) hx hb hts layX8 hown hK hP 0 rfl rfl 28 (by decide) (hts _ (inA q1006)) (fun _ h9 => h9) rfl dX8_signRest_146 ?_
      refine lv_isub hx hb dX8_signRest_149 ?_
      refine va_put (D := D) (ci := 8) (v := .int (r3.2.1.1 - r3.2.1.2.1)) (ty := .int) (C := RX8) (T := TX8) (N := 48) hx hb hts layX8 tyX8 tyX8_ok nmX8 hown hK hP hD hS 0 rfl rfl 27 (by decide) (hts _ (inA q1005)) (fun _ h9 => h9) rfl (by decide +kernel) rfl rfl (Nat.le_of_ble_eq_true rfl) dX8_signRest_150 (fun H locs hP hD hS => ?_)
      have hP : va_P D vwCl (wM_CXLNTUOE cI ad o_X o_L o_N r3.1 o_U (r3.2.1.1 - r3.2.1.2.1, r3.2.1.2.1, r3.2.1.2.2.1 - 1, r3.2.1.2.2.2) (r3.2.2.1, r3.2.2.2.1 - 1, r3.2.2.2.2) o_Q o_V o_I o_C) H := hP
      have hD : va_D A (wM_CXLNTUOE cI ad o_X o_L o_N r3.1 o_U (r3.2.1.1 - r3.2.1.2.1, r3.2.1.2.1, r3.2.1.2.2.1 - 1, r3.2.1.2.2.2) (r3.2.2.1, r3.2.2.2.1 - 1, r3.2.2.2.2) o_Q o_V o_I o_C) := hD
      refine lv_aload_n hx hb dX8_signRest_153 rfl (lv_at hl 0 rfl) ?_
      refine lv_iconst (v := 0) hx hb dX8_signRest_154 (by decide) ?_
      refine va_put (D := D) (ci := 8) (v := .int 0) (ty := .int) (C := RX8) (T := TX8) (N := 48) hx hb hts layX8 tyX8 tyX8_ok nmX8 hown hK hP hD hS 0 rfl rfl 28 (by decide) (hts _ (inA q1006)) (fun _ h9 => h9) rfl (by decide +kernel) rfl rfl (Nat.le_of_ble_eq_true rfl) dX8_signRest_155 (fun H locs hP hD hS => ?_)
      have hP : va_P D vwCl (wM_CXLNTUOE cI ad o_X o_L o_N r3.1 o_U (r3.2.1.1 - r3.2.1.2.1, 0, r3.2.1.2.2.1 - 1, r3.2.1.2.2.2) (r3.2.2.1, r3.2.2.2.1 - 1, r3.2.2.2.2) o_Q o_V o_I o_C) H := hP
      have hD : va_D A (wM_CXLNTUOE cI ad o_X o_L o_N r3.1 o_U (r3.2.1.1 - r3.2.1.2.1, 0, r3.2.1.2.2.1 - 1, r3.2.1.2.2.2) (r3.2.2.1, r3.2.2.2.1 - 1, r3.2.2.2.2) o_Q o_V o_I o_C) := hD
      cases hM
      exact rt_v hx hb hr hlk hP hD hS rfl dX8_signRest_158
  · replace hM := if_f c2 hM
    refine lv_aload_n hx hb dX8_signRest_9 rfl (lv_at hl 1 rfl) ?_
    obtain ⟨r5, hcr5, hM⟩ := ob_use hM
    refine cl_V (As := []) (rest := []) (wM_CXLNTUOE cI ad o_X r5.2.1 o_N o_T o_U r5.2.2 o_E o_Q o_V o_I o_C) (.int r5.1 :: []) ⟨hx, hb, hml, hown, hts⟩ (c_Model_opens l D cI sd ad o_C o_X o_N o_T o_U o_E o_Q o_V o_I o_L o_O r5 hcr5) (cwV2 hts q1321 mvX8_opens rfl rfl ⟨(Nat.le_of_ble_eq_true rfl), (Nat.le_of_ble_eq_true rfl)⟩) hK hE hA hP hD hS 0 (T := TX8) (N := 48) (ci := 8) rfl rfl [0] rfl (by decide) rfl rfl rfl rfl rfl rfl hl.1 (Nat.le_of_ble_eq_true rfl) dX8_signRest_10 ⟨Nat.zero_le _, Nat.zero_le _⟩ (fun H locs hP hD hS => ?_)
    refine lv_if_eq (tgt := 91) hx hb dX8_signRest_13 (by decide) (fun c6 => ?_) (fun c6 => ?_)
    · replace hM := if_t c6 hM
      cases hM
      exact rt_v hx hb hr hlk hP hD hS rfl dX8_signRest_91
    · replace hM := if_f c6 hM
      refine lv_aload_n hx hb dX8_signRest_16 rfl (lv_at hl 1 rfl) ?_
      refine lv_dup hx hb dX8_signRest_17 rfl ?_
      refine va_get (D := D) (ci := 8) (v := .int r5.2.2.2.1) (C := RX8) (T := TX8) (N := 48) hx hb hts layX8 hown hK hP 0 rfl rfl 28 (by decide) (hts _ (inA q1006)) (fun _ h9 => h9) rfl dX8_signRest_18 ?_
      refine lv_iconst (v := 1) hx hb dX8_signRest_21 (by decide) ?_
      refine lv_iadd hx hb dX8_signRest_22 ?_
      refine va_put (D := D) (ci := 8) (v := .int (r5.2.2.2.1 + 1)) (ty := .int) (C := RX8) (T := TX8) (N := 48) hx hb hts layX8 tyX8 tyX8_ok nmX8 hown hK hP hD hS 0 rfl rfl 28 (by decide) (hts _ (inA q1006)) (fun _ h9 => h9) rfl (by decide +kernel) rfl rfl (Nat.le_of_ble_eq_true rfl) dX8_signRest_23 (fun H locs hP hD hS => ?_)
      have hP : va_P D vwCl (wM_CXLNTUOE cI ad o_X r5.2.1 o_N o_T o_U (r5.2.2.1, r5.2.2.2.1 + 1, r5.2.2.2.2) o_E o_Q o_V o_I o_C) H := hP
      have hD : va_D A (wM_CXLNTUOE cI ad o_X r5.2.1 o_N o_T o_U (r5.2.2.1, r5.2.2.2.1 + 1, r5.2.2.2.2) o_E o_Q o_V o_I o_C) := hD
      have lp_L26 : ∀ (w1_L26 : Int32) (o_C_L26 : S_MC) (o_X_L26 : S_MX) (o_L_L26 : S_ML) (o_N_L26 : S_MN) (o_U_L26 : S_MU) (n : Nat) (o_T_L26 : S_MT) (o_O_L26 : S_MO) (o_E_L26 : S_ME) (out_L26 : S_MT × S_MO × S_ME) (H : Heap) (locs : List Loc) (ls : Array Slot), f_Model_signRest_L26 w1_L26 n o_T_L26 o_O_L26 o_E_L26 = some out_L26 → va_P D vwCl (wM_CXLNTUOE cI ad o_X_L26 o_L_L26 o_N_L26 o_T_L26 o_U_L26 o_O_L26 o_E_L26 o_Q o_V o_I o_C_L26) H → va_D A (wM_CXLNTUOE cI ad o_X_L26 o_L_L26 o_N_L26 o_T_L26 o_U_L26 o_O_L26 o_E_L26 o_Q o_V o_I o_C_L26) → va_S A s.heap H locs → lv_has ls 2 [(1, .int w1_L26), (0, .ref (ad 100))] → (∀ (H : Heap) (locs : List Loc) (ls : Array Slot), va_P D vwCl (wM_CXLNTUOE cI ad o_X_L26 o_L_L26 o_N_L26 out_L26.1 o_U_L26 out_L26.2.1 out_L26.2.2 o_Q o_V o_I o_C_L26) H → va_D A (wM_CXLNTUOE cI ad o_X_L26 o_L_L26 o_N_L26 out_L26.1 o_U_L26 out_L26.2.1 out_L26.2.2 o_Q o_V o_I o_C_L26) → va_S A s.heap H locs → lv_has ls 2 [(1, .int w1_L26), (0, .ref (ad 100))] → W p l e { frames := 5, cells := 0, slots := 0, locals := 112 } s m [.ref (ad 100)].toArray below meth c H locs 0 0 (MQ below (CQ D A (wM_CXLNTUOE cI ad o_X res.1 res.2.1 res.2.2.1 res.2.2.2.1 res.2.2.2.2.1 res.2.2.2.2.2 o_Q o_V o_I o_C) none) [.ref (ad 100)].toArray s 0 0 A) (F0 m 68 ls [])) → W p l e { frames := 5, cells := 0, slots := 0, locals := 112 } s m [.ref (ad 100)].toArray below meth c H locs 0 0 (MQ below (CQ D A (wM_CXLNTUOE cI ad o_X res.1 res.2.1 res.2.2.1 res.2.2.2.1 res.2.2.2.2.1 res.2.2.2.2.2 o_Q o_V o_I o_C) none) [.ref (ad 100)].toArray s 0 0 A) (F0 m 26 ls []) := by
        intro w1_L26 o_C_L26 o_X_L26 o_L_L26 o_N_L26 o_U_L26 n
        induction n with
        | zero => intro o_T_L26 o_O_L26 o_E_L26 out_L26 H locs ls hM; exact absurd (show none = some _ from hM) (by simp)
        | succ n ih_L26 =>
          intro o_T_L26 o_O_L26 o_E_L26 out_L26 H locs ls hM hP hD hS hl kx_L26
          rw [f_Model_signRest_L26] at hM
          refine lv_aload_n hx hb dX8_signRest_26 rfl (lv_at hl 1 rfl) ?_
          refine va_get (D := D) (ci := 8) (v := .ref (ad 117)) (C := RX8) (T := TX8) (N := 48) hx hb hts layX8 hown hK hP 0 rfl rfl 36 (by decide) (hts _ (inA q1014)) (fun _ h9 => h9) rfl dX8_signRest_27 ?_
          refine lv_aload_n hx hb dX8_signRest_30 rfl (lv_at hl 1 rfl) ?_
          refine va_get (D := D) (ci := 8) (v := .int o_E_L26.2.1) (C := RX8) (T := TX8) (N := 48) hx hb hts layX8 hown hK hP 0 rfl rfl 35 (by decide) (hts _ (inA q1013)) (fun _ h9 => h9) rfl dX8_signRest_31 ?_
          refine lv_iconst (v := 1) hx hb dX8_signRest_34 (by decide) ?_
          refine lv_isub hx hb dX8_signRest_35 ?_
          obtain ⟨b1361, hM⟩ := gd_use hM
          refine va_iald hx hb hK hP 17 0 rfl rfl b1361 dX8_signRest_36 ?_
          refine lv_if_lt (tgt := 68) hx hb dX8_signRest_37 (by decide) (fun c1362 => ?_) (fun c1362 => ?_)
          · replace hM := if_t c1362 hM
            cases hM
            exact kx_L26 _ _ _ hP hD hS (lv_sub hl [0, 1] rfl)
          · replace hM := if_f c1362 hM
            refine lv_aload_n hx hb dX8_signRest_40 rfl (lv_at hl 1 rfl) ?_
            refine va_get (D := D) (ci := 8) (v := .ref (ad 117)) (C := RX8) (T := TX8) (N := 48) hx hb hts layX8 hown hK hP 0 rfl rfl 36 (by decide) (hts _ (inA q1014)) (fun _ h9 => h9) rfl dX8_signRest_41 ?_
            refine lv_aload_n hx hb dX8_signRest_44 rfl (lv_at hl 1 rfl) ?_
            refine va_get (D := D) (ci := 8) (v := .int o_E_L26.2.1) (C := RX8) (T := TX8) (N := 48) hx hb hts layX8 hown hK hP 0 rfl rfl 35 (by decide) (hts _ (inA q1013)) (fun _ h9 => h9) rfl dX8_signRest_45 ?_
            refine lv_iconst (v := 1) hx hb dX8_signRest_48 (by decide) ?_
            refine lv_isub hx hb dX8_signRest_49 ?_
            obtain ⟨b1363, hM⟩ := gd_use hM
            refine va_iald hx hb hK hP 17 0 rfl rfl b1363 dX8_signRest_50 ?_
            obtain ⟨r1364, hcr1364, hM⟩ := ob_use hM
            refine cl_S (As := [.int (o_E_L26.2.2.2.2.1 (o_E_L26.2.1 - 1).toNatClampNeg)]) (rest := []) (wM_CXLNTUOE cI ad o_X_L26 o_L_L26 o_N_L26 o_T_L26 o_U_L26 o_O_L26 o_E_L26 o_Q o_V o_I o_C_L26) (.int r1364 :: []) ⟨hx, hb, hml, hown, hts⟩ (c_Model_closeness l D cI sd ad (o_E_L26.2.2.2.2.1 (o_E_L26.2.1 - 1).toNatClampNeg) r1364 hcr1364) (cwS2 hts q1413 mvX8_closeness rfl rfl ⟨(Nat.le_of_ble_eq_true rfl), (Nat.le_of_ble_eq_true rfl)⟩) hK hE hA hP hD hS [] rfl (by decide) rfl rfl rfl rfl rfl rfl hl.1 (Nat.le_of_ble_eq_true rfl) dX8_signRest_51 ⟨Nat.zero_le _, Nat.zero_le _⟩ (fun H locs hP hD hS => ?_)
            refine lv_iload_n hx hb dX8_signRest_54 rfl (lv_at hl 0 rfl) ?_
            obtain ⟨r1365, hcr1365, hM⟩ := ob_use hM
            refine cl_S (As := [.int w1_L26]) (rest := [.int r1364]) (wM_CXLNTUOE cI ad o_X_L26 o_L_L26 o_N_L26 o_T_L26 o_U_L26 o_O_L26 o_E_L26 o_Q o_V o_I o_C_L26) (.int r1365 :: [.int r1364]) ⟨hx, hb, hml, hown, hts⟩ (c_Model_closeness l D cI sd ad w1_L26 r1365 hcr1365) (cwS2 hts q1413 mvX8_closeness rfl rfl ⟨(Nat.le_of_ble_eq_true rfl), (Nat.le_of_ble_eq_true rfl)⟩) hK hE hA hP hD hS [] rfl (by decide) rfl rfl rfl rfl rfl rfl hl.1 (Nat.le_of_ble_eq_true rfl) dX8_signRest_55 ⟨Nat.zero_le _, Nat.zero_le _⟩ (fun H locs hP hD hS => ?_)
            refine lv_icmp_lt (tgt := 68) hx hb dX8_signRest_58 (by decide) (fun c1366 => ?_) (fun c1366 => ?_)
            · replace hM := if_t c1366 hM
              cases hM
              exact kx_L26 _ _ _ hP hD hS (lv_sub hl [0, 1] rfl)
            · replace hM := if_f c1366 hM
              refine lv_aload_n hx hb dX8_signRest_61 rfl (lv_at hl 1 rfl) ?_
              obtain ⟨r1367, hcr1367, hM⟩ := ob_use hM
              refine cl_V (As := []) (rest := []) (wM_CXLNTUOE cI ad o_X_L26 o_L_L26 o_N_L26 r1367.1 o_U_L26 r1367.2.1 r1367.2.2 o_Q o_V o_I o_C_L26) [] ⟨hx, hb, hml, hown, hts⟩ (c_Model_settle l D cI sd ad o_C_L26 o_X_L26 o_L_L26 o_N_L26 o_U_L26 o_Q o_V o_I o_T_L26 o_O_L26 o_E_L26 r1367 hcr1367) (cwV2 hts q1397 mvX8_settle rfl rfl ⟨(Nat.le_of_ble_eq_true rfl), (Nat.le_of_ble_eq_true rfl)⟩) hK hE hA hP hD hS 0 (T := TX8) (N := 48) (ci := 8) rfl rfl [0, 8, 9, 10, 11, 12, 13, 14, 16, 17, 18, 19] rfl (by decide) (mrgE rfl rfl) rfl rfl rfl rfl rfl hl.1 (Nat.le_of_ble_eq_true rfl) dX8_signRest_62 ⟨Nat.zero_le _, Nat.zero_le _⟩ (fun H locs hP hD hS => ?_)
              refine lv_goto (tgt := 26) hx hb dX8_signRest_65 (by decide) ?_
              exact ih_L26 r1367.1 r1367.2.1 r1367.2.2 out_L26 _ _ _ hM hP hD hS (lv_sub hl [0, 1] rfl) kx_L26
      obtain ⟨r7, hcr7, hM⟩ := ob_use hM
      refine lp_L26 r1 o_C o_X r5.2.1 o_N o_U FU o_T (r5.2.2.1, r5.2.2.2.1 + 1, r5.2.2.2.2) o_E r7 _ _ _ hcr7 hP hD hS (lv_sub hl [0, 1] rfl) (fun H locs ls hP hD hS hl => ?_)
      refine lv_aload_n hx hb dX8_signRest_68 rfl (lv_at hl 1 rfl) ?_
      refine lv_iload_n hx hb dX8_signRest_69 rfl (lv_at hl 0 rfl) ?_
      refine lv_aload_n hx hb dX8_signRest_70 rfl (lv_at hl 1 rfl) ?_
      refine va_get (D := D) (ci := 8) (v := .int r5.2.1.1) (C := RX8) (T := TX8) (N := 48) hx hb hts layX8 hown hK hP 0 rfl rfl 6 (by decide) (hts _ (inA q984)) (fun _ h9 => h9) rfl dX8_signRest_71 ?_
      obtain ⟨r8, hcr8, hM⟩ := ob_use hM
      refine cl_V (As := [.int r1, .int r5.2.1.1]) (rest := []) (wM_CXLNTUOE cI ad o_X r5.2.1 o_N r7.1 o_U r7.2.1 r8 o_Q o_V o_I o_C) [] ⟨hx, hb, hml, hown, hts⟩ (c_Model_waitFor l D cI sd ad o_C o_X r5.2.1 o_N r7.1 o_U r7.2.1 o_Q o_V o_I r7.2.2 r1 r5.2.1.1 r8 hcr8) (cwV2 hts q1381 mvX8_waitFor rfl rfl ⟨(Nat.le_of_ble_eq_true rfl), (Nat.le_of_ble_eq_true rfl)⟩) hK hE hA hP hD hS 0 (T := TX8) (N := 48) (ci := 8) rfl rfl [0, 16, 17, 18, 19] rfl (by decide) (mrgE rfl rfl) rfl rfl rfl rfl rfl hl.1 (Nat.le_of_ble_eq_true rfl) dX8_signRest_74 ⟨Nat.zero_le _, Nat.zero_le _⟩ (fun H locs hP hD hS => ?_)
      refine lv_aload_n hx hb dX8_signRest_77 rfl (lv_at hl 1 rfl) ?_
      refine lv_sipush (v := 136) hx hb dX8_signRest_78 (by decide) ?_
      refine lv_sipush (v := 135) hx hb dX8_signRest_81 (by decide) ?_
      obtain ⟨r9, hcr9, hM⟩ := ob_use hM
      refine cl_V (As := [.int 136, .int 135]) (rest := []) (wM_CXLNTUOE cI ad o_X r5.2.1 o_N r7.1 r9 r7.2.1 r8 o_Q o_V o_I o_C) [] ⟨hx, hb, hml, hown, hts⟩ (c_Model_push2 l D cI sd ad o_C o_X r5.2.1 o_N r7.1 r7.2.1 r8 o_Q o_V o_I o_U 136 135 r9 hcr9) (cwV2 hts q1257 mvX8_push2 rfl rfl ⟨(Nat.le_of_ble_eq_true rfl), (Nat.le_of_ble_eq_true rfl)⟩) hK hE hA hP hD hS 0 (T := TX8) (N := 48) (ci := 8) rfl rfl [0, 15] rfl (by decide) rfl rfl rfl rfl rfl rfl hl.1 (Nat.le_of_ble_eq_true rfl) dX8_signRest_84 ⟨Nat.zero_le _, Nat.zero_le _⟩ (fun H locs hP hD hS => ?_)
      refine lv_aload_n hx hb dX8_signRest_87 rfl (lv_at hl 1 rfl) ?_
      obtain ⟨r10, hcr10, hM⟩ := ob_use hM
      refine cl_V (As := []) (rest := []) (wM_CXLNTUOE cI ad o_X r10.1 r10.2 r7.1 r9 r7.2.1 r8 o_Q o_V o_I o_C) [] ⟨hx, hb, hml, hown, hts⟩ (c_Model_step l D cI sd ad r7.1 r9 r7.2.1 r8 o_Q o_V o_I o_C o_X r5.2.1 o_N r10 hcr10) (cwV2 hts q1151 mvX8_step rfl rfl ⟨(Nat.le_of_ble_eq_true rfl), (Nat.le_of_ble_eq_true rfl)⟩) hK hE hA hP hD hS 0 (T := TX8) (N := 48) (ci := 8) rfl rfl [0, 1, 2, 3, 4, 5, 6, 7] rfl (by decide) (mrgE rfl rfl) rfl rfl rfl rfl rfl hl.1 (Nat.le_of_ble_eq_true rfl) dX8_signRest_88 ⟨Nat.zero_le _, Nat.zero_le _⟩ (fun H locs hP hD hS => ?_)
      cases hM
      exact rt_v hx hb hr hlk hP hD hS rfl dX8_signRest_91

set_option maxHeartbeats 4000000 in
set_option maxRecDepth 100000 in
theorem c_Model_cell (l : Launch) (D : va_G) (cI : ClassId) (sd : Nat → Nat) (ad : Nat → Nat) (o_O : S_MO) (o_E : S_ME) (o_Q : S_MQ) (o_V : S_MV) (o_I : S_MI) (o_C : S_MC) (o_X : S_MX) (o_L : S_ML) (o_N : S_MN) (o_T : S_MT) (o_U : S_MU) (res : S_ML × S_MN × S_MT × S_MU) (hM : f_Model_cell o_C o_X o_L o_N o_T o_U = some res) : Ctr l D cI sd yX8_cell (wsM yX8_cell cX8_cell 2 (Option.none : Option Jvm.ClassFile.FieldType)) { frames := 5, cells := 0, slots := 0, locals := 112 } [.ref (ad 100)] (wM_CXLNTU cI ad o_X o_L o_N o_T o_U o_O o_E o_Q o_V o_I o_C) (wM_CXLNTU cI ad o_X res.1 res.2.1 res.2.2.1 res.2.2.2 o_O o_E o_Q o_V o_I o_C) none := by
  refine Ctr.of (cc := cX8_cell) (maxL := 2) (own := RX8) (by decide +kernel) rfl rfl (Nat.le_of_ble_eq_true rfl) ?_
  intro p e s m below meth c A ls hx hb hr hml hown hts hlk hK hE hA hP hD hS hl
  have hl : lv_has ls 2 [(0, .ref (ad 100))] := hl
  unfold f_Model_cell at hM
  refine lv_aload_n hx hb dX8_cell_0 rfl (lv_at hl 0 rfl) ?_
  refine va_get (D := D) (ci := 8) (v := .int o_L.2.1) (C := RX8) (T := TX8) (N := 48) hx hb hts layX8 hown hK hP 0 rfl rfl 7 (by decide) (hts _ (inA q985)) (fun _ h9 => h9) rfl dX8_cell_1 ?_
  refine lv_bipush (v := 66) hx hb dX8_cell_4 (by decide) ?_
  refine lv_icmp_ne (tgt := 13) hx hb dX8_cell_6 (by decide) (fun c1 => ?_) (fun c1 => ?_)
  · replace hM := if_f c1 hM
    refine lv_aload_n hx hb dX8_cell_13 rfl (lv_at hl 0 rfl) ?_
    refine va_get (D := D) (ci := 8) (v := .int o_L.2.1) (C := RX8) (T := TX8) (N := 48) hx hb hts layX8 hown hK hP 0 rfl rfl 7 (by decide) (hts _ (inA q985)) (fun _ h9 => h9) rfl dX8_cell_14 ?_
    refine lv_bipush (v := 69) hx hb dX8_cell_17 (by decide) ?_
    refine lv_icmp_ne (tgt := 26) hx hb dX8_cell_19 (by decide) (fun c2 => ?_) (fun c2 => ?_)
    · replace hM := if_f c2 hM
      refine lv_aload_n hx hb dX8_cell_26 rfl (lv_at hl 0 rfl) ?_
      refine va_get (D := D) (ci := 8) (v := .int o_L.2.1) (C := RX8) (T := TX8) (N := 48) hx hb hts layX8 hown hK hP 0 rfl rfl 7 (by decide) (hts _ (inA q985)) (fun _ h9 => h9) rfl dX8_cell_27 ?_
      refine lv_bipush (v := 68) hx hb dX8_cell_30 (by decide) ?_
      refine lv_icmp_ne (tgt := 39) hx hb dX8_cell_32 (by decide) (fun c3 => ?_) (fun c3 => ?_)
      · replace hM := if_f c3 hM
        refine lv_iconst (v := 0) hx hb dX8_cell_39 (by decide) ?_
        refine lv_istore_n (lv' := [(1, .int 0), (0, .ref (ad 100))]) hx hb dX8_cell_40 rfl hl (by decide) rfl (fun ls hl => ?_)
        refine lv_iload_n hx hb dX8_cell_41 rfl (lv_at hl 0 rfl) ?_
        refine lv_if_gt (tgt := 54) hx hb dX8_cell_42 (by decide) (fun c4 => False.elim (by revert c4; decide)) (fun c4 => ?_)
        refine lv_aload_n hx hb dX8_cell_45 rfl (lv_at hl 1 rfl) ?_
        refine va_get (D := D) (ci := 8) (v := .int o_L.2.1) (C := RX8) (T := TX8) (N := 48) hx hb hts layX8 hown hK hP 0 rfl rfl 7 (by decide) (hts _ (inA q985)) (fun _ h9 => h9) rfl dX8_cell_46 ?_
        refine lv_bipush (v := 80) hx hb dX8_cell_49 (by decide) ?_
        refine lv_icmp_ne (tgt := 85) hx hb dX8_cell_51 (by decide) (fun c5 => ?_) (fun c5 => ?_)
        · replace hM := if_f c5 hM
          refine lv_aload_n hx hb dX8_cell_85 rfl (lv_at hl 1 rfl) ?_
          refine va_get (D := D) (ci := 8) (v := .int o_L.2.1) (C := RX8) (T := TX8) (N := 48) hx hb hts layX8 hown hK hP 0 rfl rfl 7 (by decide) (hts _ (inA q985)) (fun _ h9 => h9) rfl dX8_cell_86 ?_
          refine lv_bipush (v := 64) hx hb dX8_cell_89 (by decide) ?_
          refine lv_icmp_eq (tgt := 103) hx hb dX8_cell_91 (by decide) (fun c6 => ?_) (fun c6 => ?_)
          · replace hM := if_t c6 hM
            refine lv_aload_n hx hb dX8_cell_103 rfl (lv_at hl 1 rfl) ?_
            refine lv_aload_n hx hb dX8_cell_104 rfl (lv_at hl 1 rfl) ?_
            refine va_get (D := D) (ci := 8) (v := .int o_L.2.1) (C := RX8) (T := TX8) (N := 48) hx hb hts layX8 hown hK hP 0 rfl rfl 7 (by decide) (hts _ (inA q985)) (fun _ h9 => h9) rfl dX8_cell_105 ?_
            refine lv_bipush (v := 64) hx hb dX8_cell_108 (by decide) ?_
            refine lv_icmp_ne (tgt := 118) hx hb dX8_cell_110 (by decide) (fun c7 => ?_) (fun c7 => ?_)
            · replace hM := if_f c7 hM
              refine lv_bipush (v := 27) hx hb dX8_cell_118 (by decide) ?_
              refine lv_aload_n hx hb dX8_cell_120 rfl (lv_at hl 1 rfl) ?_
              refine va_get (D := D) (ci := 8) (v := .int o_L.1) (C := RX8) (T := TX8) (N := 48) hx hb hts layX8 hown hK hP 0 rfl rfl 6 (by decide) (hts _ (inA q984)) (fun _ h9 => h9) rfl dX8_cell_121 ?_
              refine lv_iconst (v := 0) hx hb dX8_cell_124 (by decide) ?_
              obtain ⟨r8, hcr8, hM⟩ := ob_use hM
              refine cl_V (As := [.int 27, .int o_L.1, .int 0]) (rest := []) (wM_CXLNTU cI ad o_X o_L o_N r8 o_U o_O o_E o_Q o_V o_I o_C) [] ⟨hx, hb, hml, hown, hts⟩ (c_Model_leaf l D cI sd ad o_C o_X o_L o_N o_U o_O o_E o_Q o_V o_I o_T 27 o_L.1 0 r8 hcr8) (cwV2 hts q1277 mvX8_leaf rfl rfl ⟨(Nat.le_of_ble_eq_true rfl), (Nat.le_of_ble_eq_true rfl)⟩) hK hE hA hP hD hS 0 (T := TX8) (N := 48) (ci := 8) rfl rfl [0, 8, 9, 10, 11, 12, 13, 14] rfl (by decide) (mrgE rfl rfl) rfl rfl rfl rfl rfl hl.1 (Nat.le_of_ble_eq_true rfl) dX8_cell_125 ⟨Nat.zero_le _, Nat.zero_le _⟩ (fun H locs hP hD hS => ?_)
              refine lv_aload_n hx hb dX8_cell_128 rfl (lv_at hl 1 rfl) ?_
              obtain ⟨r9, hcr9, hM⟩ := ob_use hM
              refine cl_V (As := []) (rest := []) (wM_CXLNTU cI ad o_X r9.1 r9.2 r8 o_U o_O o_E o_Q o_V o_I o_C) [] ⟨hx, hb, hml, hown, hts⟩ (c_Model_step l D cI sd ad r8 o_U o_O o_E o_Q o_V o_I o_C o_X o_L o_N r9 hcr9) (cwV2 hts q1151 mvX8_step rfl rfl ⟨(Nat.le_of_ble_eq_true rfl), (Nat.le_of_ble_eq_true rfl)⟩) hK hE hA hP hD hS 0 (T := TX8) (N := 48) (ci := 8) rfl rfl [0, 1, 2, 3, 4, 5, 6, 7] rfl (by decide) (mrgE rfl rfl) rfl rfl rfl rfl rfl hl.1 (Nat.le_of_ble_eq_true rfl) dX8_cell_129 ⟨Nat.zero_le _, Nat.zero_le _⟩ (fun H locs hP hD hS => ?_)
              refine lv_goto (tgt := 180) hx hb dX8_cell_132 (by decide) ?_
              cases hM
              exact rt_v hx hb hr hlk hP hD hS rfl dX8_cell_180
            · replace hM := if_t c7 hM
              refine lv_bipush (v := 26) hx hb dX8_cell_113 (by decide) ?_
              refine lv_goto (tgt := 120) hx hb dX8_cell_115 (by decide) ?_
              refine lv_aload_n hx hb dX8_cell_120 rfl (lv_at hl 1 rfl) ?_
              refine va_get (D := D) (ci := 8) (v := .int o_L.1) (C := RX8) (T := TX8) (N := 48) hx hb hts layX8 hown hK hP 0 rfl rfl 6 (by decide) (hts _ (inA q984)) (fun _ h9 => h9) rfl dX8_cell_121 ?_
              refine lv_iconst (v := 0) hx hb dX8_cell_124 (by decide) ?_
              obtain ⟨r10, hcr10, hM⟩ := ob_use hM
              refine cl_V (As := [.int 26, .int o_L.1, .int 0]) (rest := []) (wM_CXLNTU cI ad o_X o_L o_N r10 o_U o_O o_E o_Q o_V o_I o_C) [] ⟨hx, hb, hml, hown, hts⟩ (c_Model_leaf l D cI sd ad o_C o_X o_L o_N o_U o_O o_E o_Q o_V o_I o_T 26 o_L.1 0 r10 hcr10) (cwV2 hts q1277 mvX8_leaf rfl rfl ⟨(Nat.le_of_ble_eq_true rfl), (Nat.le_of_ble_eq_true rfl)⟩) hK hE hA hP hD hS 0 (T := TX8) (N := 48) (ci := 8) rfl rfl [0, 8, 9, 10, 11, 12, 13, 14] rfl (by decide) (mrgE rfl rfl) rfl rfl rfl rfl rfl hl.1 (Nat.le_of_ble_eq_true rfl) dX8_cell_125 ⟨Nat.zero_le _, Nat.zero_le _⟩ (fun H locs hP hD hS => ?_)
              refine lv_aload_n hx hb dX8_cell_128 rfl (lv_at hl 1 rfl) ?_
              obtain ⟨r11, hcr11, hM⟩ := ob_use hM
              refine cl_V (As := []) (rest := []) (wM_CXLNTU cI ad o_X r11.1 r11.2 r10 o_U o_O o_E o_Q o_V o_I o_C) [] ⟨hx, hb, hml, hown, hts⟩ (c_Model_step l D cI sd ad r10 o_U o_O o_E o_Q o_V o_I o_C o_X o_L o_N r11 hcr11) (cwV2 hts q1151 mvX8_step rfl rfl ⟨(Nat.le_of_ble_eq_true rfl), (Nat.le_of_ble_eq_true rfl)⟩) hK hE hA hP hD hS 0 (T := TX8) (N := 48) (ci := 8) rfl rfl [0, 1, 2, 3, 4, 5, 6, 7] rfl (by decide) (mrgE rfl rfl) rfl rfl rfl rfl rfl hl.1 (Nat.le_of_ble_eq_true rfl) dX8_cell_129 ⟨Nat.zero_le _, Nat.zero_le _⟩ (fun H locs hP hD hS => ?_)
              refine lv_goto (tgt := 180) hx hb dX8_cell_132 (by decide) ?_
              cases hM
              exact rt_v hx hb hr hlk hP hD hS rfl dX8_cell_180
          · replace hM := if_f c6 hM
            refine lv_aload_n hx hb dX8_cell_94 rfl (lv_at hl 1 rfl) ?_
            refine va_get (D := D) (ci := 8) (v := .int o_L.2.1) (C := RX8) (T := TX8) (N := 48) hx hb hts layX8 hown hK hP 0 rfl rfl 7 (by decide) (hts _ (inA q985)) (fun _ h9 => h9) rfl dX8_cell_95 ?_
            refine lv_bipush (v := 65) hx hb dX8_cell_98 (by decide) ?_
            refine lv_icmp_ne (tgt := 135) hx hb dX8_cell_100 (by decide) (fun c12 => ?_) (fun c12 => ?_)
            · replace hM := if_f c12 hM
              refine lv_aload_n hx hb dX8_cell_135 rfl (lv_at hl 1 rfl) ?_
              refine va_get (D := D) (ci := 8) (v := .int o_L.2.1) (C := RX8) (T := TX8) (N := 48) hx hb hts layX8 hown hK hP 0 rfl rfl 7 (by decide) (hts _ (inA q985)) (fun _ h9 => h9) rfl dX8_cell_136 ?_
              refine lv_bipush (v := 55) hx hb dX8_cell_139 (by decide) ?_
              refine lv_icmp_ne (tgt := 176) hx hb dX8_cell_141 (by decide) (fun c13 => ?_) (fun c13 => ?_)
              · replace hM := if_f c13 hM
                refine lv_aload_n hx hb dX8_cell_176 rfl (lv_at hl 1 rfl) ?_
                obtain ⟨r14, hcr14, hM⟩ := ob_use hM
                refine cl_V (As := []) (rest := []) (wM_CXLNTU cI ad o_X r14 o_N o_T o_U o_O o_E o_Q o_V o_I o_C) [] ⟨hx, hb, hml, hown, hts⟩ (c_Model_wrong l D cI sd ad o_C o_X o_N o_T o_U o_O o_E o_Q o_V o_I o_L r14 hcr14) (cwV2 hts q1233 mvX8_wrong rfl rfl ⟨(Nat.le_of_ble_eq_true rfl), (Nat.le_of_ble_eq_true rfl)⟩) hK hE hA hP hD hS 0 (T := TX8) (N := 48) (ci := 8) rfl rfl [0] rfl (by decide) rfl rfl rfl rfl rfl rfl hl.1 (Nat.le_of_ble_eq_true rfl) dX8_cell_177 ⟨Nat.zero_le _, Nat.zero_le _⟩ (fun H locs hP hD hS => ?_)
                cases hM
                exact rt_v hx hb hr hlk hP hD hS rfl dX8_cell_180
              · replace hM := if_t c13 hM
                refine lv_aload_n hx hb dX8_cell_144 rfl (lv_at hl 1 rfl) ?_
                refine lv_bipush (v := 28) hx hb dX8_cell_145 (by decide) ?_
                refine lv_aload_n hx hb dX8_cell_147 rfl (lv_at hl 1 rfl) ?_
                refine va_get (D := D) (ci := 8) (v := .int o_L.1) (C := RX8) (T := TX8) (N := 48) hx hb hts layX8 hown hK hP 0 rfl rfl 6 (by decide) (hts _ (inA q984)) (fun _ h9 => h9) rfl dX8_cell_148 ?_
                refine lv_iconst (v := 0) hx hb dX8_cell_151 (by decide) ?_
                obtain ⟨r15, hcr15, hM⟩ := ob_use hM
                refine cl_V (As := [.int 28, .int o_L.1, .int 0]) (rest := []) (wM_CXLNTU cI ad o_X o_L o_N r15 o_U o_O o_E o_Q o_V o_I o_C) [] ⟨hx, hb, hml, hown, hts⟩ (c_Model_down l D cI sd ad o_C o_X o_L o_N o_U o_O o_E o_Q o_V o_I o_T 28 o_L.1 0 r15 hcr15) (cwV2 hts q1245 mvX8_down rfl rfl ⟨(Nat.le_of_ble_eq_true rfl), (Nat.le_of_ble_eq_true rfl)⟩) hK hE hA hP hD hS 0 (T := TX8) (N := 48) (ci := 8) rfl rfl [0, 8, 9, 10, 11, 12, 13, 14] rfl (by decide) (mrgE rfl rfl) rfl rfl rfl rfl rfl hl.1 (Nat.le_of_ble_eq_true rfl) dX8_cell_152 ⟨Nat.zero_le _, Nat.zero_le _⟩ (fun H locs hP hD hS => ?_)
                refine lv_aload_n hx hb dX8_cell_155 rfl (lv_at hl 1 rfl) ?_
                refine lv_bipush (v := 101) hx hb dX8_cell_156 (by decide) ?_
                refine lv_bipush (v := 56) hx hb dX8_cell_158 (by decide) ?_
                refine lv_sipush (v := 158) hx hb dX8_cell_160 (by decide) ?_
                refine lv_sipush (v := 157) hx hb dX8_cell_163 (by decide) ?_
                obtain ⟨r16, hcr16, hM⟩ := ob_use hM
                refine cl_V (As := [.int 101, .int 56, .int 158, .int 157]) (rest := []) (wM_CXLNTU cI ad o_X o_L o_N r15 r16 o_O o_E o_Q o_V o_I o_C) [] ⟨hx, hb, hml, hown, hts⟩ (c_Model_push4 l D cI sd ad o_C o_X o_L o_N r15 o_O o_E o_Q o_V o_I o_U 101 56 158 157 r16 hcr16) (cwV2 hts q1253 mvX8_push4 rfl rfl ⟨(Nat.le_of_ble_eq_true rfl), (Nat.le_of_ble_eq_true rfl)⟩) hK hE hA hP hD hS 0 (T := TX8) (N := 48) (ci := 8) rfl rfl [0, 15] rfl (by decide) rfl rfl rfl rfl rfl rfl hl.1 (Nat.le_of_ble_eq_true rfl) dX8_cell_166 ⟨Nat.zero_le _, Nat.zero_le _⟩ (fun H locs hP hD hS => ?_)
                refine lv_aload_n hx hb dX8_cell_169 rfl (lv_at hl 1 rfl) ?_
                obtain ⟨r17, hcr17, hM⟩ := ob_use hM
                refine cl_V (As := []) (rest := []) (wM_CXLNTU cI ad o_X r17.1 r17.2 r15 r16 o_O o_E o_Q o_V o_I o_C) [] ⟨hx, hb, hml, hown, hts⟩ (c_Model_step l D cI sd ad r15 r16 o_O o_E o_Q o_V o_I o_C o_X o_L o_N r17 hcr17) (cwV2 hts q1151 mvX8_step rfl rfl ⟨(Nat.le_of_ble_eq_true rfl), (Nat.le_of_ble_eq_true rfl)⟩) hK hE hA hP hD hS 0 (T := TX8) (N := 48) (ci := 8) rfl rfl [0, 1, 2, 3, 4, 5, 6, 7] rfl (by decide) (mrgE rfl rfl) rfl rfl rfl rfl rfl hl.1 (Nat.le_of_ble_eq_true rfl) dX8_cell_170 ⟨Nat.zero_le _, Nat.zero_le _⟩ (fun H locs hP hD hS => ?_)
                refine lv_goto (tgt := 180) hx hb dX8_cell_173 (by decide) ?_
                cases hM
                exact rt_v hx hb hr hlk hP hD hS rfl dX8_cell_180
            · replace hM := if_t c12 hM
              refine lv_aload_n hx hb dX8_cell_103 rfl (lv_at hl 1 rfl) ?_
              refine lv_aload_n hx hb dX8_cell_104 rfl (lv_at hl 1 rfl) ?_
              refine va_get (D := D) (ci := 8) (v := .int o_L.2.1) (C := RX8) (T := TX8) (N := 48) hx hb hts layX8 hown hK hP 0 rfl rfl 7 (by decide) (hts _ (inA q985)) (fun _ h9 => h9) rfl dX8_cell_105 ?_
              refine lv_bipush (v := 64) hx hb dX8_cell_108 (by decide) ?_
              refine lv_icmp_ne (tgt := 118) hx hb dX8_cell_110 (by decide) (fun c18 => ?_) (fun c18 => ?_)
              · replace hM := if_f c18 hM
                refine lv_bipush (v := 27) hx hb dX8_cell_118 (by decide) ?_
                refine lv_aload_n hx hb dX8_cell_120 rfl (lv_at hl 1 rfl) ?_
                refine va_get (D := D) (ci := 8) (v := .int o_L.1) (C := RX8) (T := TX8) (N := 48) hx hb hts layX8 hown hK hP 0 rfl rfl 6 (by decide) (hts _ (inA q984)) (fun _ h9 => h9) rfl dX8_cell_121 ?_
                refine lv_iconst (v := 0) hx hb dX8_cell_124 (by decide) ?_
                obtain ⟨r19, hcr19, hM⟩ := ob_use hM
                refine cl_V (As := [.int 27, .int o_L.1, .int 0]) (rest := []) (wM_CXLNTU cI ad o_X o_L o_N r19 o_U o_O o_E o_Q o_V o_I o_C) [] ⟨hx, hb, hml, hown, hts⟩ (c_Model_leaf l D cI sd ad o_C o_X o_L o_N o_U o_O o_E o_Q o_V o_I o_T 27 o_L.1 0 r19 hcr19) (cwV2 hts q1277 mvX8_leaf rfl rfl ⟨(Nat.le_of_ble_eq_true rfl), (Nat.le_of_ble_eq_true rfl)⟩) hK hE hA hP hD hS 0 (T := TX8) (N := 48) (ci := 8) rfl rfl [0, 8, 9, 10, 11, 12, 13, 14] rfl (by decide) (mrgE rfl rfl) rfl rfl rfl rfl rfl hl.1 (Nat.le_of_ble_eq_true rfl) dX8_cell_125 ⟨Nat.zero_le _, Nat.zero_le _⟩ (fun H locs hP hD hS => ?_)
                refine lv_aload_n hx hb dX8_cell_128 rfl (lv_at hl 1 rfl) ?_
                obtain ⟨r20, hcr20, hM⟩ := ob_use hM
                refine cl_V (As := []) (rest := []) (wM_CXLNTU cI ad o_X r20.1 r20.2 r19 o_U o_O o_E o_Q o_V o_I o_C) [] ⟨hx, hb, hml, hown, hts⟩ (c_Model_step l D cI sd ad r19 o_U o_O o_E o_Q o_V o_I o_C o_X o_L o_N r20 hcr20) (cwV2 hts q1151 mvX8_step rfl rfl ⟨(Nat.le_of_ble_eq_true rfl), (Nat.le_of_ble_eq_true rfl)⟩) hK hE hA hP hD hS 0 (T := TX8) (N := 48) (ci := 8) rfl rfl [0, 1, 2, 3, 4, 5, 6, 7] rfl (by decide) (mrgE rfl rfl) rfl rfl rfl rfl rfl hl.1 (Nat.le_of_ble_eq_true rfl) dX8_cell_129 ⟨Nat.zero_le _, Nat.zero_le _⟩ (fun H locs hP hD hS => ?_)
                refine lv_goto (tgt := 180) hx hb dX8_cell_132 (by decide) ?_
                cases hM
                exact rt_v hx hb hr hlk hP hD hS rfl dX8_cell_180
              · replace hM := if_t c18 hM
                refine lv_bipush (v := 26) hx hb dX8_cell_113 (by decide) ?_
                refine lv_goto (tgt := 120) hx hb dX8_cell_115 (by decide) ?_
                refine lv_aload_n hx hb dX8_cell_120 rfl (lv_at hl 1 rfl) ?_
                refine va_get (D := D) (ci := 8) (v := .int o_L.1) (C := RX8) (T := TX8) (N := 48) hx hb hts layX8 hown hK hP 0 rfl rfl 6 (by decide) (hts _ (inA q984)) (fun _ h9 => h9) rfl dX8_cell_121 ?_
                refine lv_iconst (v := 0) hx hb dX8_cell_124 (by decide) ?_
                obtain ⟨r21, hcr21, hM⟩ := ob_use hM
                refine cl_V (As := [.int 26, .int o_L.1, .int 0]) (rest := []) (wM_CXLNTU cI ad o_X o_L o_N r21 o_U o_O o_E o_Q o_V o_I o_C) [] ⟨hx, hb, hml, hown, hts⟩ (c_Model_leaf l D cI sd ad o_C o_X o_L o_N o_U o_O o_E o_Q o_V o_I o_T 26 o_L.1 0 r21 hcr21) (cwV2 hts q1277 mvX8_leaf rfl rfl ⟨(Nat.le_of_ble_eq_true rfl), (Nat.le_of_ble_eq_true rfl)⟩) hK hE hA hP hD hS 0 (T := TX8) (N := 48) (ci := 8) rfl rfl [0, 8, 9, 10, 11, 12, 13, 14] rfl (by decide) (mrgE rfl rfl) rfl rfl rfl rfl rfl hl.1 (Nat.le_of_ble_eq_true rfl) dX8_cell_125 ⟨Nat.zero_le _, Nat.zero_le _⟩ (fun H locs hP hD hS => ?_)
                refine lv_aload_n hx hb dX8_cell_128 rfl (lv_at hl 1 rfl) ?_
                obtain ⟨r22, hcr22, hM⟩ := ob_use hM
                refine cl_V (As := []) (rest := []) (wM_CXLNTU cI ad o_X r22.1 r22.2 r21 o_U o_O o_E o_Q o_V o_I o_C) [] ⟨hx, hb, hml, hown, hts⟩ (c_Model_step l D cI sd ad r21 o_U o_O o_E o_Q o_V o_I o_C o_X o_L o_N r22 hcr22) (cwV2 hts q1151 mvX8_step rfl rfl ⟨(Nat.le_of_ble_eq_true rfl), (Nat.le_of_ble_eq_true rfl)⟩) hK hE hA hP hD hS 0 (T := TX8) (N := 48) (ci := 8) rfl rfl [0, 1, 2, 3, 4, 5, 6, 7] rfl (by decide) (mrgE rfl rfl) rfl rfl rfl rfl rfl hl.1 (Nat.le_of_ble_eq_true rfl) dX8_cell_129 ⟨Nat.zero_le _, Nat.zero_le _⟩ (fun H locs hP hD hS => ?_)
                refine lv_goto (tgt := 180) hx hb dX8_cell_132 (by decide) ?_
                cases hM
                exact rt_v hx hb hr hlk hP hD hS rfl dX8_cell_180
        · replace hM := if_t c5 hM
          refine lv_aload_n hx hb dX8_cell_54 rfl (lv_at hl 1 rfl) ?_
          refine lv_bipush (v := 25) hx hb dX8_cell_55 (by decide) ?_
          refine lv_aload_n hx hb dX8_cell_57 rfl (lv_at hl 1 rfl) ?_
          refine va_get (D := D) (ci := 8) (v := .int o_L.1) (C := RX8) (T := TX8) (N := 48) hx hb hts layX8 hown hK hP 0 rfl rfl 6 (by decide) (hts _ (inA q984)) (fun _ h9 => h9) rfl dX8_cell_58 ?_
          refine lv_iload_n hx hb dX8_cell_61 rfl (lv_at hl 0 rfl) ?_
          obtain ⟨r23, hcr23, hM⟩ := ob_use hM
          refine cl_V (As := [.int 25, .int o_L.1, .int 0]) (rest := []) (wM_CXLNTU cI ad o_X o_L o_N r23 o_U o_O o_E o_Q o_V o_I o_C) [] ⟨hx, hb, hml, hown, hts⟩ (c_Model_down l D cI sd ad o_C o_X o_L o_N o_U o_O o_E o_Q o_V o_I o_T 25 o_L.1 0 r23 hcr23) (cwV2 hts q1245 mvX8_down rfl rfl ⟨(Nat.le_of_ble_eq_true rfl), (Nat.le_of_ble_eq_true rfl)⟩) hK hE hA hP hD hS 0 (T := TX8) (N := 48) (ci := 8) rfl rfl [0, 8, 9, 10, 11, 12, 13, 14] rfl (by decide) (mrgE rfl rfl) rfl rfl rfl rfl rfl hl.1 (Nat.le_of_ble_eq_true rfl) dX8_cell_62 ⟨Nat.zero_le _, Nat.zero_le _⟩ (fun H locs hP hD hS => ?_)
          refine lv_aload_n hx hb dX8_cell_65 rfl (lv_at hl 1 rfl) ?_
          refine lv_bipush (v := 101) hx hb dX8_cell_66 (by decide) ?_
          refine lv_sipush (v := 155) hx hb dX8_cell_68 (by decide) ?_
          obtain ⟨r24, hcr24, hM⟩ := ob_use hM
          refine cl_V (As := [.int 101, .int 155]) (rest := []) (wM_CXLNTU cI ad o_X o_L o_N r23 r24 o_O o_E o_Q o_V o_I o_C) [] ⟨hx, hb, hml, hown, hts⟩ (c_Model_push2 l D cI sd ad o_C o_X o_L o_N r23 o_O o_E o_Q o_V o_I o_U 101 155 r24 hcr24) (cwV2 hts q1257 mvX8_push2 rfl rfl ⟨(Nat.le_of_ble_eq_true rfl), (Nat.le_of_ble_eq_true rfl)⟩) hK hE hA hP hD hS 0 (T := TX8) (N := 48) (ci := 8) rfl rfl [0, 15] rfl (by decide) rfl rfl rfl rfl rfl rfl hl.1 (Nat.le_of_ble_eq_true rfl) dX8_cell_71 ⟨Nat.zero_le _, Nat.zero_le _⟩ (fun H locs hP hD hS => ?_)
          refine lv_iload_n hx hb dX8_cell_74 rfl (lv_at hl 0 rfl) ?_
          refine lv_if_le (tgt := 180) hx hb dX8_cell_75 (by decide) (fun c25 => ?_) (fun c25 => False.elim (by revert c25; decide))
          cases hM
          exact rt_v hx hb hr hlk hP hD hS rfl dX8_cell_180
      · replace hM := if_t c3 hM
        refine lv_iconst (v := 3) hx hb dX8_cell_35 (by decide) ?_
        refine lv_goto (tgt := 40) hx hb dX8_cell_36 (by decide) ?_
        refine lv_istore_n (lv' := [(1, .int 3), (0, .ref (ad 100))]) hx hb dX8_cell_40 rfl hl (by decide) rfl (fun ls hl => ?_)
        refine lv_iload_n hx hb dX8_cell_41 rfl (lv_at hl 0 rfl) ?_
        refine lv_if_gt (tgt := 54) hx hb dX8_cell_42 (by decide) (fun c26 => ?_) (fun c26 => False.elim (by revert c26; decide))
        refine lv_aload_n hx hb dX8_cell_54 rfl (lv_at hl 1 rfl) ?_
        refine lv_bipush (v := 25) hx hb dX8_cell_55 (by decide) ?_
        refine lv_aload_n hx hb dX8_cell_57 rfl (lv_at hl 1 rfl) ?_
        refine va_get (D := D) (ci := 8) (v := .int o_L.1) (C := RX8) (T := TX8) (N := 48) hx hb hts layX8 hown hK hP 0 rfl rfl 6 (by decide) (hts _ (inA q984)) (fun _ h9 => h9) rfl dX8_cell_58 ?_
        refine lv_iload_n hx hb dX8_cell_61 rfl (lv_at hl 0 rfl) ?_
        obtain ⟨r27, hcr27, hM⟩ := ob_use hM
        refine cl_V (As := [.int 25, .int o_L.1, .int 3]) (rest := []) (wM_CXLNTU cI ad o_X o_L o_N r27 o_U o_O o_E o_Q o_V o_I o_C) [] ⟨hx, hb, hml, hown, hts⟩ (c_Model_down l D cI sd ad o_C o_X o_L o_N o_U o_O o_E o_Q o_V o_I o_T 25 o_L.1 3 r27 hcr27) (cwV2 hts q1245 mvX8_down rfl rfl ⟨(Nat.le_of_ble_eq_true rfl), (Nat.le_of_ble_eq_true rfl)⟩) hK hE hA hP hD hS 0 (T := TX8) (N := 48) (ci := 8) rfl rfl [0, 8, 9, 10, 11, 12, 13, 14] rfl (by decide) (mrgE rfl rfl) rfl rfl rfl rfl rfl hl.1 (Nat.le_of_ble_eq_true rfl) dX8_cell_62 ⟨Nat.zero_le _, Nat.zero_le _⟩ (fun H locs hP hD hS => ?_)
        refine lv_aload_n hx hb dX8_cell_65 rfl (lv_at hl 1 rfl) ?_
        refine lv_bipush (v := 101) hx hb dX8_cell_66 (by decide) ?_
        refine lv_sipush (v := 155) hx hb dX8_cell_68 (by decide) ?_
        obtain ⟨r28, hcr28, hM⟩ := ob_use hM
        refine cl_V (As := [.int 101, .int 155]) (rest := []) (wM_CXLNTU cI ad o_X o_L o_N r27 r28 o_O o_E o_Q o_V o_I o_C) [] ⟨hx, hb, hml, hown, hts⟩ (c_Model_push2 l D cI sd ad o_C o_X o_L o_N r27 o_O o_E o_Q o_V o_I o_U 101 155 r28 hcr28) (cwV2 hts q1257 mvX8_push2 rfl rfl ⟨(Nat.le_of_ble_eq_true rfl), (Nat.le_of_ble_eq_true rfl)⟩) hK hE hA hP hD hS 0 (T := TX8) (N := 48) (ci := 8) rfl rfl [0, 15] rfl (by decide) rfl rfl rfl rfl rfl rfl hl.1 (Nat.le_of_ble_eq_true rfl) dX8_cell_71 ⟨Nat.zero_le _, Nat.zero_le _⟩ (fun H locs hP hD hS => ?_)
        refine lv_iload_n hx hb dX8_cell_74 rfl (lv_at hl 0 rfl) ?_
        refine lv_if_le (tgt := 180) hx hb dX8_cell_75 (by decide) (fun c29 => False.elim (by revert c29; decide)) (fun c29 => ?_)
        refine lv_aload_n hx hb dX8_cell_78 rfl (lv_at hl 1 rfl) ?_
        obtain ⟨r30, hcr30, hM⟩ := ob_use hM
        refine cl_V (As := []) (rest := []) (wM_CXLNTU cI ad o_X r30.1 r30.2 r27 r28 o_O o_E o_Q o_V o_I o_C) [] ⟨hx, hb, hml, hown, hts⟩ (c_Model_step l D cI sd ad r27 r28 o_O o_E o_Q o_V o_I o_C o_X o_L o_N r30 hcr30) (cwV2 hts q1151 mvX8_step rfl rfl ⟨(Nat.le_of_ble_eq_true rfl), (Nat.le_of_ble_eq_true rfl)⟩) hK hE hA hP hD hS 0 (T := TX8) (N := 48) (ci := 8) rfl rfl [0, 1, 2, 3, 4, 5, 6, 7] rfl (by decide) (mrgE rfl rfl) rfl rfl rfl rfl rfl hl.1 (Nat.le_of_ble_eq_true rfl) dX8_cell_79 ⟨Nat.zero_le _, Nat.zero_le _⟩ (fun H locs hP hD hS => ?_)
        refine lv_goto (tgt := 180) hx hb dX8_cell_82 (by decide) ?_
        cases hM
        exact rt_v hx hb hr hlk hP hD hS rfl dX8_cell_180
    · replace hM := if_t c2 hM
      refine lv_iconst (v := 2) hx hb dX8_cell_22 (by decide) ?_
      refine lv_goto (tgt := 40) hx hb dX8_cell_23 (by decide) ?_
      refine lv_istore_n (lv' := [(1, .int 2), (0, .ref (ad 100))]) hx hb dX8_cell_40 rfl hl (by decide) rfl (fun ls hl => ?_)
      refine lv_iload_n hx hb dX8_cell_41 rfl (lv_at hl 0 rfl) ?_
      refine lv_if_gt (tgt := 54) hx hb dX8_cell_42 (by decide) (fun c31 => ?_) (fun c31 => False.elim (by revert c31; decide))
      refine lv_aload_n hx hb dX8_cell_54 rfl (lv_at hl 1 rfl) ?_
      refine lv_bipush (v := 25) hx hb dX8_cell_55 (by decide) ?_
      refine lv_aload_n hx hb dX8_cell_57 rfl (lv_at hl 1 rfl) ?_
      refine va_get (D := D) (ci := 8) (v := .int o_L.1) (C := RX8) (T := TX8) (N := 48) hx hb hts layX8 hown hK hP 0 rfl rfl 6 (by decide) (hts _ (inA q984)) (fun _ h9 => h9) rfl dX8_cell_58 ?_
      refine lv_iload_n hx hb dX8_cell_61 rfl (lv_at hl 0 rfl) ?_
      obtain ⟨r32, hcr32, hM⟩ := ob_use hM
      refine cl_V (As := [.int 25, .int o_L.1, .int 2]) (rest := []) (wM_CXLNTU cI ad o_X o_L o_N r32 o_U o_O o_E o_Q o_V o_I o_C) [] ⟨hx, hb, hml, hown, hts⟩ (c_Model_down l D cI sd ad o_C o_X o_L o_N o_U o_O o_E o_Q o_V o_I o_T 25 o_L.1 2 r32 hcr32) (cwV2 hts q1245 mvX8_down rfl rfl ⟨(Nat.le_of_ble_eq_true rfl), (Nat.le_of_ble_eq_true rfl)⟩) hK hE hA hP hD hS 0 (T := TX8) (N := 48) (ci := 8) rfl rfl [0, 8, 9, 10, 11, 12, 13, 14] rfl (by decide) (mrgE rfl rfl) rfl rfl rfl rfl rfl hl.1 (Nat.le_of_ble_eq_true rfl) dX8_cell_62 ⟨Nat.zero_le _, Nat.zero_le _⟩ (fun H locs hP hD hS => ?_)
      refine lv_aload_n hx hb dX8_cell_65 rfl (lv_at hl 1 rfl) ?_
      refine lv_bipush (v := 101) hx hb dX8_cell_66 (by decide) ?_
      refine lv_sipush (v := 155) hx hb dX8_cell_68 (by decide) ?_
      obtain ⟨r33, hcr33, hM⟩ := ob_use hM
      refine cl_V (As := [.int 101, .int 155]) (rest := []) (wM_CXLNTU cI ad o_X o_L o_N r32 r33 o_O o_E o_Q o_V o_I o_C) [] ⟨hx, hb, hml, hown, hts⟩ (c_Model_push2 l D cI sd ad o_C o_X o_L o_N r32 o_O o_E o_Q o_V o_I o_U 101 155 r33 hcr33) (cwV2 hts q1257 mvX8_push2 rfl rfl ⟨(Nat.le_of_ble_eq_true rfl), (Nat.le_of_ble_eq_true rfl)⟩) hK hE hA hP hD hS 0 (T := TX8) (N := 48) (ci := 8) rfl rfl [0, 15] rfl (by decide) rfl rfl rfl rfl rfl rfl hl.1 (Nat.le_of_ble_eq_true rfl) dX8_cell_71 ⟨Nat.zero_le _, Nat.zero_le _⟩ (fun H locs hP hD hS => ?_)
      refine lv_iload_n hx hb dX8_cell_74 rfl (lv_at hl 0 rfl) ?_
      refine lv_if_le (tgt := 180) hx hb dX8_cell_75 (by decide) (fun c34 => False.elim (by revert c34; decide)) (fun c34 => ?_)
      refine lv_aload_n hx hb dX8_cell_78 rfl (lv_at hl 1 rfl) ?_
      obtain ⟨r35, hcr35, hM⟩ := ob_use hM
      refine cl_V (As := []) (rest := []) (wM_CXLNTU cI ad o_X r35.1 r35.2 r32 r33 o_O o_E o_Q o_V o_I o_C) [] ⟨hx, hb, hml, hown, hts⟩ (c_Model_step l D cI sd ad r32 r33 o_O o_E o_Q o_V o_I o_C o_X o_L o_N r35 hcr35) (cwV2 hts q1151 mvX8_step rfl rfl ⟨(Nat.le_of_ble_eq_true rfl), (Nat.le_of_ble_eq_true rfl)⟩) hK hE hA hP hD hS 0 (T := TX8) (N := 48) (ci := 8) rfl rfl [0, 1, 2, 3, 4, 5, 6, 7] rfl (by decide) (mrgE rfl rfl) rfl rfl rfl rfl rfl hl.1 (Nat.le_of_ble_eq_true rfl) dX8_cell_79 ⟨Nat.zero_le _, Nat.zero_le _⟩ (fun H locs hP hD hS => ?_)
      refine lv_goto (tgt := 180) hx hb dX8_cell_82 (by decide) ?_
      cases hM
      exact rt_v hx hb hr hlk hP hD hS rfl dX8_cell_180
  · replace hM := if_t c1 hM
    refine lv_iconst (v := 1) hx hb dX8_cell_9 (by decide) ?_
    refine lv_goto (tgt := 40) hx hb dX8_cell_10 (by decide) ?_
    refine lv_istore_n (lv' := [(1, .int 1), (0, .ref (ad 100))]) hx hb dX8_cell_40 rfl hl (by decide) rfl (fun ls hl => ?_)
    refine lv_iload_n hx hb dX8_cell_41 rfl (lv_at hl 0 rfl) ?_
    refine lv_if_gt (tgt := 54) hx hb dX8_cell_42 (by decide) (fun c36 => ?_) (fun c36 => False.elim (by revert c36; decide))
    refine lv_aload_n hx hb dX8_cell_54 rfl (lv_at hl 1 rfl) ?_
    refine lv_bipush (v := 25) hx hb dX8_cell_55 (by decide) ?_
    refine lv_aload_n hx hb dX8_cell_57 rfl (lv_at hl 1 rfl) ?_
    refine va_get (D := D) (ci := 8) (v := .int o_L.1) (C := RX8) (T := TX8) (N := 48) hx hb hts layX8 hown hK hP 0 rfl rfl 6 (by decide) (hts _ (inA q984)) (fun _ h9 => h9) rfl dX8_cell_58 ?_
    refine lv_iload_n hx hb dX8_cell_61 rfl (lv_at hl 0 rfl) ?_
    obtain ⟨r37, hcr37, hM⟩ := ob_use hM
    refine cl_V (As := [.int 25, .int o_L.1, .int 1]) (rest := []) (wM_CXLNTU cI ad o_X o_L o_N r37 o_U o_O o_E o_Q o_V o_I o_C) [] ⟨hx, hb, hml, hown, hts⟩ (c_Model_down l D cI sd ad o_C o_X o_L o_N o_U o_O o_E o_Q o_V o_I o_T 25 o_L.1 1 r37 hcr37) (cwV2 hts q1245 mvX8_down rfl rfl ⟨(Nat.le_of_ble_eq_true rfl), (Nat.le_of_ble_eq_true rfl)⟩) hK hE hA hP hD hS 0 (T := TX8) (N := 48) (ci := 8) rfl rfl [0, 8, 9, 10, 11, 12, 13, 14] rfl (by decide) (mrgE rfl rfl) rfl rfl rfl rfl rfl hl.1 (Nat.le_of_ble_eq_true rfl) dX8_cell_62 ⟨Nat.zero_le _, Nat.zero_le _⟩ (fun H locs hP hD hS => ?_)
    refine lv_aload_n hx hb dX8_cell_65 rfl (lv_at hl 1 rfl) ?_
    refine lv_bipush (v := 101) hx hb dX8_cell_66 (by decide) ?_
    refine lv_sipush (v := 155) hx hb dX8_cell_68 (by decide) ?_
    obtain ⟨r38, hcr38, hM⟩ := ob_use hM
    refine cl_V (As := [.int 101, .int 155]) (rest := []) (wM_CXLNTU cI ad o_X o_L o_N r37 r38 o_O o_E o_Q o_V o_I o_C) [] ⟨hx, hb, hml, hown, hts⟩ (c_Model_push2 l D cI sd ad o_C o_X o_L o_N r37 o_O o_E o_Q o_V o_I o_U 101 155 r38 hcr38) (cwV2 hts q1257 mvX8_push2 rfl rfl ⟨(Nat.le_of_ble_eq_true rfl), (Nat.le_of_ble_eq_true rfl)⟩) hK hE hA hP hD hS 0 (T := TX8) (N := 48) (ci := 8) rfl rfl [0, 15] rfl (by decide) rfl rfl rfl rfl rfl rfl hl.1 (Nat.le_of_ble_eq_true rfl) dX8_cell_71 ⟨Nat.zero_le _, Nat.zero_le _⟩ (fun H locs hP hD hS => ?_)
    refine lv_iload_n hx hb dX8_cell_74 rfl (lv_at hl 0 rfl) ?_
    refine lv_if_le (tgt := 180) hx hb dX8_cell_75 (by decide) (fun c39 => False.elim (by revert c39; decide)) (fun c39 => ?_)
    refine lv_aload_n hx hb dX8_cell_78 rfl (lv_at hl 1 rfl) ?_
    obtain ⟨r40, hcr40, hM⟩ := ob_use hM
    refine cl_V (As := []) (rest := []) (wM_CXLNTU cI ad o_X r40.1 r40.2 r37 r38 o_O o_E o_Q o_V o_I o_C) [] ⟨hx, hb, hml, hown, hts⟩ (c_Model_step l D cI sd ad r37 r38 o_O o_E o_Q o_V o_I o_C o_X o_L o_N r40 hcr40) (cwV2 hts q1151 mvX8_step rfl rfl ⟨(Nat.le_of_ble_eq_true rfl), (Nat.le_of_ble_eq_true rfl)⟩) hK hE hA hP hD hS 0 (T := TX8) (N := 48) (ci := 8) rfl rfl [0, 1, 2, 3, 4, 5, 6, 7] rfl (by decide) (mrgE rfl rfl) rfl rfl rfl rfl rfl hl.1 (Nat.le_of_ble_eq_true rfl) dX8_cell_79 ⟨Nat.zero_le _, Nat.zero_le _⟩ (fun H locs hP hD hS => ?_)
    refine lv_goto (tgt := 180) hx hb dX8_cell_82 (by decide) ?_
    cases hM
    exact rt_v hx hb hr hlk hP hD hS rfl dX8_cell_180

set_option maxHeartbeats 4000000 in
set_option maxRecDepth 100000 in
theorem c_Model_contact (l : Launch) (D : va_G) (cI : ClassId) (sd : Nat → Nat) (ad : Nat → Nat) (o_T : S_MT) (o_E : S_ME) (o_Q : S_MQ) (o_V : S_MV) (o_I : S_MI) (o_C : S_MC) (o_X : S_MX) (o_L : S_ML) (o_N : S_MN) (o_U : S_MU) (o_O : S_MO) (res : S_ML × S_MN × S_MU × S_MO) (hM : f_Model_contact o_C o_X o_L o_N o_U o_O = some res) : Ctr l D cI sd yX8_contact (wsM yX8_contact cX8_contact 1 (Option.none : Option Jvm.ClassFile.FieldType)) { frames := 6, cells := 0, slots := 0, locals := 133 } [.ref (ad 100)] (wM_CXLNUO cI ad o_X o_L o_N o_T o_U o_O o_E o_Q o_V o_I o_C) (wM_CXLNUO cI ad o_X res.1 res.2.1 o_T res.2.2.1 res.2.2.2 o_E o_Q o_V o_I o_C) none := by
  refine Ctr.of (cc := cX8_contact) (maxL := 1) (own := RX8) (by decide +kernel) rfl rfl (Nat.le_of_ble_eq_true rfl) ?_
  intro p e s m below meth c A ls hx hb hr hml hown hts hlk hK hE hA hP hD hS hl
  have hl : lv_has ls 1 [(0, .ref (ad 100))] := hl
  unfold f_Model_contact at hM
  refine lv_aload_n hx hb dX8_contact_0 rfl (lv_at hl 0 rfl) ?_
  obtain ⟨r1, hcr1, hM⟩ := ob_use hM
  refine cl_V (As := []) (rest := []) (wM_CXLNUO cI ad o_X o_L o_N o_T o_U r1 o_E o_Q o_V o_I o_C) [] ⟨hx, hb, hml, hown, hts⟩ (c_Model_keepName l D cI sd ad o_C o_X o_N o_T o_U o_E o_Q o_V o_I o_L o_O r1 hcr1) (cwV2 hts q1317 mvX8_keepName rfl rfl ⟨(Nat.le_of_ble_eq_true rfl), (Nat.le_of_ble_eq_true rfl)⟩) hK hE hA hP hD hS 0 (T := TX8) (N := 48) (ci := 8) rfl rfl [0] rfl (by decide) rfl rfl rfl rfl rfl rfl hl.1 (Nat.le_of_ble_eq_true rfl) dX8_contact_1 ⟨Nat.zero_le _, Nat.zero_le _⟩ (fun H locs hP hD hS => ?_)
  refine lv_aload_n hx hb dX8_contact_4 rfl (lv_at hl 0 rfl) ?_
  refine lv_sipush (v := 156) hx hb dX8_contact_5 (by decide) ?_
  obtain ⟨r2, hcr2, hM⟩ := ob_use hM
  refine cl_V (As := [.int 156]) (rest := []) (wM_CXLNUO cI ad o_X o_L o_N o_T r2 r1 o_E o_Q o_V o_I o_C) [] ⟨hx, hb, hml, hown, hts⟩ (c_Model_push l D cI sd ad o_C o_X o_L o_N o_T r1 o_E o_Q o_V o_I o_U 156 r2 hcr2) (cwV2 hts q1147 mvX8_push rfl rfl ⟨(Nat.le_of_ble_eq_true rfl), (Nat.le_of_ble_eq_true rfl)⟩) hK hE hA hP hD hS 0 (T := TX8) (N := 48) (ci := 8) rfl rfl [0, 8] rfl (by decide) rfl rfl rfl rfl rfl rfl hl.1 (Nat.le_of_ble_eq_true rfl) dX8_contact_8 ⟨Nat.zero_le _, Nat.zero_le _⟩ (fun H locs hP hD hS => ?_)
  refine lv_aload_n hx hb dX8_contact_11 rfl (lv_at hl 0 rfl) ?_
  refine lv_bipush (v := 80) hx hb dX8_contact_12 (by decide) ?_
  obtain ⟨r3, hcr3, hM⟩ := ob_use hM
  refine cl_V (As := [.int 80]) (rest := []) (wM_CXLNUO cI ad o_X r3.1 r3.2 o_T r2 r1 o_E o_Q o_V o_I o_C) [] ⟨hx, hb, hml, hown, hts⟩ (c_Model_pass l D cI sd ad o_T r2 r1 o_E o_Q o_V o_I o_C o_X o_L o_N 80 r3 hcr3) (cwV2 hts q1229 mvX8_pass rfl rfl ⟨(Nat.le_of_ble_eq_true rfl), (Nat.le_of_ble_eq_true rfl)⟩) hK hE hA hP hD hS 0 (T := TX8) (N := 48) (ci := 8) rfl rfl [0, 1, 2, 3, 4, 5, 6, 7] rfl (by decide) (mrgE rfl rfl) rfl rfl rfl rfl rfl hl.1 (Nat.le_of_ble_eq_true rfl) dX8_contact_14 ⟨Nat.zero_le _, Nat.zero_le _⟩ (fun H locs hP hD hS => ?_)
  cases hM
  exact rt_v hx hb hr hlk hP hD hS rfl dX8_contact_17

set_option maxHeartbeats 4000000 in
set_option maxRecDepth 100000 in
theorem c_Model_behindContact (l : Launch) (D : va_G) (cI : ClassId) (sd : Nat → Nat) (ad : Nat → Nat) (o_E : S_ME) (o_Q : S_MQ) (o_V : S_MV) (o_I : S_MI) (o_C : S_MC) (o_X : S_MX) (o_L : S_ML) (o_N : S_MN) (o_T : S_MT) (o_U : S_MU) (o_O : S_MO) (res : S_ML × S_MN × S_MT × S_MU) (hM : f_Model_behindContact o_C o_X o_L o_N o_T o_U o_O = some res) : Ctr l D cI sd yX8_behindContact (wsM yX8_behindContact cX8_behindContact 1 (Option.none : Option Jvm.ClassFile.FieldType)) { frames := 5, cells := 0, slots := 0, locals := 112 } [.ref (ad 100)] (wM_CXLNTUO cI ad o_X o_L o_N o_T o_U o_O o_E o_Q o_V o_I o_C) (wM_CXLNTUO cI ad o_X res.1 res.2.1 res.2.2.1 res.2.2.2 o_O o_E o_Q o_V o_I o_C) none := by
  refine Ctr.of (cc := cX8_behindContact) (maxL := 1) (own := RX8) (by decide +kernel) rfl rfl (Nat.le_of_ble_eq_true rfl) ?_
  intro p e s m below meth c A ls hx hb hr hml hown hts hlk hK hE hA hP hD hS hl
  have hl : lv_has ls 1 [(0, .ref (ad 100))] := hl
  unfold f_Model_behindContact at hM
  refine lv_aload_n hx hb dX8_behindContact_0 rfl (lv_at hl 0 rfl) ?_
  refine va_get (D := D) (ci := 8) (v := .int o_L.2.1) (C := RX8) (T := TX8) (N := 48) hx hb hts layX8 hown hK hP 0 rfl rfl 7 (by decide) (hts _ (inA q985)) (fun _ h9 => h9) rfl dX8_behindContact_1 ?_
  refine lv_bipush (v := 62) hx hb dX8_behindContact_4 (by decide) ?_
  refine lv_icmp_ne (tgt := 39) hx hb dX8_behindContact_6 (by decide) (fun c1 => ?_) (fun c1 => ?_)
  · replace hM := if_f c1 hM
    refine lv_aload_n hx hb dX8_behindContact_39 rfl (lv_at hl 0 rfl) ?_
    refine lv_bipush (v := 6) hx hb dX8_behindContact_40 (by decide) ?_
    refine lv_aload_n hx hb dX8_behindContact_42 rfl (lv_at hl 0 rfl) ?_
    refine va_get (D := D) (ci := 8) (v := .int o_O.2.2.2.1) (C := RX8) (T := TX8) (N := 48) hx hb hts layX8 hown hK hP 0 rfl rfl 30 (by decide) (hts _ (inA q1008)) (fun _ h9 => h9) rfl dX8_behindContact_43 ?_
    refine lv_aload_n hx hb dX8_behindContact_46 rfl (lv_at hl 0 rfl) ?_
    refine va_get (D := D) (ci := 8) (v := .int o_O.2.2.2.2.1) (C := RX8) (T := TX8) (N := 48) hx hb hts layX8 hown hK hP 0 rfl rfl 31 (by decide) (hts _ (inA q1009)) (fun _ h9 => h9) rfl dX8_behindContact_47 ?_
    obtain ⟨r2, hcr2, hM⟩ := ob_use hM
    refine cl_V (As := [.int 6, .int o_O.2.2.2.1, .int o_O.2.2.2.2.1]) (rest := []) (wM_CXLNTUO cI ad o_X o_L o_N r2 o_U o_O o_E o_Q o_V o_I o_C) [] ⟨hx, hb, hml, hown, hts⟩ (c_Model_leaf l D cI sd ad o_C o_X o_L o_N o_U o_O o_E o_Q o_V o_I o_T 6 o_O.2.2.2.1 o_O.2.2.2.2.1 r2 hcr2) (cwV2 hts q1277 mvX8_leaf rfl rfl ⟨(Nat.le_of_ble_eq_true rfl), (Nat.le_of_ble_eq_true rfl)⟩) hK hE hA hP hD hS 0 (T := TX8) (N := 48) (ci := 8) rfl rfl [0, 8, 9, 10, 11, 12, 13, 14] rfl (by decide) (mrgE rfl rfl) rfl rfl rfl rfl rfl hl.1 (Nat.le_of_ble_eq_true rfl) dX8_behindContact_50 ⟨Nat.zero_le _, Nat.zero_le _⟩ (fun H locs hP hD hS => ?_)
    cases hM
    exact rt_v hx hb hr hlk hP hD hS rfl dX8_behindContact_53
  · replace hM := if_t c1 hM
    refine lv_aload_n hx hb dX8_behindContact_9 rfl (lv_at hl 0 rfl) ?_
    refine lv_bipush (v := 33) hx hb dX8_behindContact_10 (by decide) ?_
    refine lv_aload_n hx hb dX8_behindContact_12 rfl (lv_at hl 0 rfl) ?_
    refine va_get (D := D) (ci := 8) (v := .int o_O.2.2.2.1) (C := RX8) (T := TX8) (N := 48) hx hb hts layX8 hown hK hP 0 rfl rfl 30 (by decide) (hts _ (inA q1008)) (fun _ h9 => h9) rfl dX8_behindContact_13 ?_
    refine lv_aload_n hx hb dX8_behindContact_16 rfl (lv_at hl 0 rfl) ?_
    refine va_get (D := D) (ci := 8) (v := .int o_O.2.2.2.2.1) (C := RX8) (T := TX8) (N := 48) hx hb hts layX8 hown hK hP 0 rfl rfl 31 (by decide) (hts _ (inA q1009)) (fun _ h9 => h9) rfl dX8_behindContact_17 ?_
    obtain ⟨r3, hcr3, hM⟩ := ob_use hM
    refine cl_V (As := [.int 33, .int o_O.2.2.2.1, .int o_O.2.2.2.2.1]) (rest := []) (wM_CXLNTUO cI ad o_X o_L o_N r3 o_U o_O o_E o_Q o_V o_I o_C) [] ⟨hx, hb, hml, hown, hts⟩ (c_Model_down l D cI sd ad o_C o_X o_L o_N o_U o_O o_E o_Q o_V o_I o_T 33 o_O.2.2.2.1 o_O.2.2.2.2.1 r3 hcr3) (cwV2 hts q1245 mvX8_down rfl rfl ⟨(Nat.le_of_ble_eq_true rfl), (Nat.le_of_ble_eq_true rfl)⟩) hK hE hA hP hD hS 0 (T := TX8) (N := 48) (ci := 8) rfl rfl [0, 8, 9, 10, 11, 12, 13, 14] rfl (by decide) (mrgE rfl rfl) rfl rfl rfl rfl rfl hl.1 (Nat.le_of_ble_eq_true rfl) dX8_behindContact_20 ⟨Nat.zero_le _, Nat.zero_le _⟩ (fun H locs hP hD hS => ?_)
    refine lv_aload_n hx hb dX8_behindContact_23 rfl (lv_at hl 0 rfl) ?_
    refine lv_bipush (v := 101) hx hb dX8_behindContact_24 (by decide) ?_
    refine lv_sipush (v := 158) hx hb dX8_behindContact_26 (by decide) ?_
    obtain ⟨r4, hcr4, hM⟩ := ob_use hM
    refine cl_V (As := [.int 101, .int 158]) (rest := []) (wM_CXLNTUO cI ad o_X o_L o_N r3 r4 o_O o_E o_Q o_V o_I o_C) [] ⟨hx, hb, hml, hown, hts⟩ (c_Model_push2 l D cI sd ad o_C o_X o_L o_N r3 o_O o_E o_Q o_V o_I o_U 101 158 r4 hcr4) (cwV2 hts q1257 mvX8_push2 rfl rfl ⟨(Nat.le_of_ble_eq_true rfl), (Nat.le_of_ble_eq_true rfl)⟩) hK hE hA hP hD hS 0 (T := TX8) (N := 48) (ci := 8) rfl rfl [0, 15] rfl (by decide) rfl rfl rfl rfl rfl rfl hl.1 (Nat.le_of_ble_eq_true rfl) dX8_behindContact_29 ⟨Nat.zero_le _, Nat.zero_le _⟩ (fun H locs hP hD hS => ?_)
    refine lv_aload_n hx hb dX8_behindContact_32 rfl (lv_at hl 0 rfl) ?_
    obtain ⟨r5, hcr5, hM⟩ := ob_use hM
    refine cl_V (As := []) (rest := []) (wM_CXLNTUO cI ad o_X r5.1 r5.2 r3 r4 o_O o_E o_Q o_V o_I o_C) [] ⟨hx, hb, hml, hown, hts⟩ (c_Model_step l D cI sd ad r3 r4 o_O o_E o_Q o_V o_I o_C o_X o_L o_N r5 hcr5) (cwV2 hts q1151 mvX8_step rfl rfl ⟨(Nat.le_of_ble_eq_true rfl), (Nat.le_of_ble_eq_true rfl)⟩) hK hE hA hP hD hS 0 (T := TX8) (N := 48) (ci := 8) rfl rfl [0, 1, 2, 3, 4, 5, 6, 7] rfl (by decide) (mrgE rfl rfl) rfl rfl rfl rfl rfl hl.1 (Nat.le_of_ble_eq_true rfl) dX8_behindContact_33 ⟨Nat.zero_le _, Nat.zero_le _⟩ (fun H locs hP hD hS => ?_)
    refine lv_goto (tgt := 53) hx hb dX8_behindContact_36 (by decide) ?_
    cases hM
    exact rt_v hx hb hr hlk hP hD hS rfl dX8_behindContact_53

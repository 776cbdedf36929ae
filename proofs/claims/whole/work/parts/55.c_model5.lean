set_option maxHeartbeats 4000000 in
set_option maxRecDepth 100000 in
theorem c_Model_signRest (l : Launch) (D : va_G) (cI : ClassId) (sd : Nat → Nat) (ad : Nat → Nat) (o_Q : S_MQ) (o_V : S_MV) (o_I : S_MI) (o_C : S_MC) (o_X : S_MX) (o_L : S_ML) (o_N : S_MN) (o_T : S_MT) (o_U : S_MU) (o_O : S_MO) (o_E : S_ME) (res : S_ML × S_MN × S_MT × S_MU × S_MO × S_ME) (hM : f_Model_signRest o_C o_X o_L o_N o_T o_U o_O o_E = some res) : Ctr l D cI sd yX8_signRest (wsM yX8_signRest cX8_signRest 2 (Option.none : Option Jvm.ClassFile.FieldType)) { frames := 5, cells := 0, slots := 0, locals := 112 } [.ref (ad 100)] (wM0 ad o_X o_L o_N o_T o_U o_O o_E o_Q o_V o_I ++ wMC cI ad o_C ++ wMX cI ad o_X ++ wMN cI ad o_N ++ wMT cI ad o_T ++ wMU cI ad o_U ++ wME cI ad o_E) (wM0 ad o_X res.1 res.2.1 res.2.2.1 res.2.2.2.1 res.2.2.2.2.1 res.2.2.2.2.2 o_Q o_V o_I ++ wMC cI ad o_C ++ wMX cI ad o_X ++ wMN cI ad res.2.1 ++ wMT cI ad res.2.2.1 ++ wMU cI ad res.2.2.2.1 ++ wME cI ad res.2.2.2.2.2) none := by
  refine Ctr.of (cc := cX8_signRest) (maxL := 2) (own := RX8) (by decide +kernel) rfl rfl (Nat.le_of_ble_eq_true rfl) ?_
  intro p e s m below meth c A ls hx hb hr hml hown hts hlk hK hE hA hP hD hS hl
  have hl : lv_has ls 2 [(0, .ref (ad 100))] := hl
  unfold f_Model_signRest at hM
  refine lv_aload_n hx hb dX8_signRest_0 rfl (lv_at hl 0 rfl) ?_
  obtain ⟨r1, hcr1, hM⟩ := ob_use hM
  refine cl_V (As := []) (rest := []) (wM0 ad o_X o_L o_N o_T o_U o_O o_E o_Q o_V o_I ++ wMC cI ad o_C ++ wMX cI ad o_X ++ wMN cI ad o_N ++ wMT cI ad o_T ++ wMU cI ad o_U ++ wME cI ad o_E) (.int r1 :: []) ⟨hx, hb, hml, hown, hts⟩ (c_Model_signAt l D cI sd ad o_C o_X o_N o_T o_U o_O o_E o_Q o_V o_I o_L r1 hcr1) (cwV2 hts q1409 mvX8_signAt rfl rfl ⟨(Nat.le_of_ble_eq_true rfl), (Nat.le_of_ble_eq_true rfl)⟩) hK hE hA hP hD hS 0 (T := TX8) (N := 48) (ci := 8) rfl rfl [0] rfl (by decide) rfl rfl rfl rfl rfl rfl hl.1 (Nat.le_of_ble_eq_true rfl) dX8_signRest_1 ⟨Nat.zero_le _, Nat.zero_le _⟩ (fun H locs hP hD hS => ?_)
  refine lv_istore_n (lv' := [(1, .int r1), (0, .ref (ad 100))]) hx hb dX8_signRest_4 rfl hl (by decide) rfl (fun ls hl => ?_)
  refine lv_iload_n hx hb dX8_signRest_5 rfl (lv_at hl 0 rfl) ?_
  refine lv_if_lt (tgt := 92) hx hb dX8_signRest_6 (by decide) (fun c2 => ?_) (fun c2 => ?_)
  · replace hM := if_t c2 hM
    have lp_L92 : ∀ (o_C_L92 : S_MC) (o_X_L92 : S_MX) (o_L_L92 : S_ML) (o_N_L92 : S_MN) (o_U_L92 : S_MU) (n : Nat) (o_T_L92 : S_MT) (o_O_L92 : S_MO) (o_E_L92 : S_ME) (out_L92 : S_MT × S_MO × S_ME) (H : Heap) (locs : List Loc) (ls : Array Slot), f_Model_signRest_L92 n o_T_L92 o_O_L92 o_E_L92 = some out_L92 → va_P D vwCl (wM0 ad o_X_L92 o_L_L92 o_N_L92 o_T_L92 o_U_L92 o_O_L92 o_E_L92 o_Q o_V o_I ++ wMC cI ad o_C_L92 ++ wMX cI ad o_X_L92 ++ wMN cI ad o_N_L92 ++ wMT cI ad o_T_L92 ++ wMU cI ad o_U_L92 ++ wME cI ad o_E_L92) H → va_D A (wM0 ad o_X_L92 o_L_L92 o_N_L92 o_T_L92 o_U_L92 o_O_L92 o_E_L92 o_Q o_V o_I ++ wMC cI ad o_C_L92 ++ wMX cI ad o_X_L92 ++ wMN cI ad o_N_L92 ++ wMT cI ad o_T_L92 ++ wMU cI ad o_U_L92 ++ wME cI ad o_E_L92) → va_S A s.heap H locs → lv_has ls 2 [(0, .ref (ad 100))] → (∀ (H : Heap) (locs : List Loc) (ls : Array Slot), va_P D vwCl (wM0 ad o_X_L92 o_L_L92 o_N_L92 out_L92.1 o_U_L92 out_L92.2.1 out_L92.2.2 o_Q o_V o_I ++ wMC cI ad o_C_L92 ++ wMX cI ad o_X_L92 ++ wMN cI ad o_N_L92 ++ wMT cI ad out_L92.1 ++ wMU cI ad o_U_L92 ++ wME cI ad out_L92.2.2) H → va_D A (wM0 ad o_X_L92 o_L_L92 o_N_L92 out_L92.1 o_U_L92 out_L92.2.1 out_L92.2.2 o_Q o_V o_I ++ wMC cI ad o_C_L92 ++ wMX cI ad o_X_L92 ++ wMN cI ad o_N_L92 ++ wMT cI ad out_L92.1 ++ wMU cI ad o_U_L92 ++ wME cI ad out_L92.2.2) → va_S A s.heap H locs → lv_has ls 2 [(0, .ref (ad 100))] → W p l e { frames := 5, cells := 0, slots := 0, locals := 112 } s m [.ref (ad 100)].toArray below meth c H locs 0 0 (MQ below (CQ D A (wM0 ad o_X res.1 res.2.1 res.2.2.1 res.2.2.2.1 res.2.2.2.2.1 res.2.2.2.2.2 o_Q o_V o_I ++ wMC cI ad o_C ++ wMX cI ad o_X ++ wMN cI ad res.2.1 ++ wMT cI ad res.2.2.1 ++ wMU cI ad res.2.2.2.1 ++ wME cI ad res.2.2.2.2.2) none) [.ref (ad 100)].toArray s 0 0 A) (F0 m 113 ls [])) → W p l e { frames := 5, cells := 0, slots := 0, locals := 112 } s m [.ref (ad 100)].toArray below meth c H locs 0 0 (MQ below (CQ D A (wM0 ad o_X res.1 res.2.1 res.2.2.1 res.2.2.2.1 res.2.2.2.2.1 res.2.2.2.2.2 o_Q o_V o_I ++ wMC cI ad o_C ++ wMX cI ad o_X ++ wMN cI ad res.2.1 ++ wMT cI ad res.2.2.1 ++ wMU cI ad res.2.2.2.1 ++ wME cI ad res.2.2.2.2.2) none) [.ref (ad 100)].toArray s 0 0 A) (F0 m 92 ls []) := by
      intro o_C_L92 o_X_L92 o_L_L92 o_N_L92 o_U_L92 n
      induction n with
      | zero => intro o_T_L92 o_O_L92 o_E_L92 out_L92 H locs ls hM; exact absurd (show none = some _ from hM) (by simp)
      | succ n ih_L92 =>
        intro o_T_L92 o_O_L92 o_E_L92 out_L92 H locs ls hM hP hD hS hl kx_L92
        rw [f_Model_signRest_L92] at hM
        refine lv_aload_n hx hb dX8_signRest_92 rfl (lv_at hl 0 rfl) ?_
        refine va_get (D := D) (ci := 8) (v := .ref (ad 117)) (C := RX8) (T := TX8) (N := 48) hx hb hts layX8 hown hK hP 0 rfl rfl 36 (by decide) (hts _ (inA q1014)) (fun _ h9 => h9) rfl dX8_signRest_93 ?_
        refine lv_aload_n hx hb dX8_signRest_96 rfl (lv_at hl 0 rfl) ?_
        refine va_get (D := D) (ci := 8) (v := .int o_E_L92.2.1) (C := RX8) (T := TX8) (N := 48) hx hb hts layX8 hown hK hP 0 rfl rfl 35 (by decide) (hts _ (inA q1013)) (fun _ h9 => h9) rfl dX8_signRest_97 ?_
        refine lv_iconst (v := 1) hx hb dX8_signRest_100 (by decide) ?_
        refine lv_isub hx hb dX8_signRest_101 ?_
        obtain ⟨b2021, hM⟩ := gd_use hM
        refine va_iald hx hb hK hP 17 0 rfl rfl b2021 dX8_signRest_102 ?_
        refine lv_if_lt (tgt := 113) hx hb dX8_signRest_103 (by decide) (fun c2022 => ?_) (fun c2022 => ?_)
        · replace hM := if_t c2022 hM
          cases hM
          exact kx_L92 _ _ _ hP hD hS (lv_sub hl [0] rfl)
        · replace hM := if_f c2022 hM
          refine lv_aload_n hx hb dX8_signRest_106 rfl (lv_at hl 0 rfl) ?_
          obtain ⟨r2023, hcr2023, hM⟩ := ob_use hM
          refine cl_V (As := []) (rest := []) (wM0 ad o_X_L92 o_L_L92 o_N_L92 r2023.1 o_U_L92 r2023.2.1 r2023.2.2 o_Q o_V o_I ++ wMC cI ad o_C_L92 ++ wMX cI ad o_X_L92 ++ wMN cI ad o_N_L92 ++ wMT cI ad r2023.1 ++ wMU cI ad o_U_L92 ++ wME cI ad r2023.2.2) [] ⟨hx, hb, hml, hown, hts⟩ (c_Model_settle l D cI sd ad o_C_L92 o_X_L92 o_L_L92 o_N_L92 o_U_L92 o_Q o_V o_I o_T_L92 o_O_L92 o_E_L92 r2023 hcr2023) (cwV2 hts q1397 mvX8_settle rfl rfl ⟨(Nat.le_of_ble_eq_true rfl), (Nat.le_of_ble_eq_true rfl)⟩) hK hE hA hP hD hS 0 (T := TX8) (N := 48) (ci := 8) rfl rfl [0, 8, 9, 10, 11, 12, 13, 14, 16, 17, 18, 19] rfl (by decide) rfl rfl rfl rfl rfl rfl hl.1 (Nat.le_of_ble_eq_true rfl) dX8_signRest_107 ⟨Nat.zero_le _, Nat.zero_le _⟩ (fun H locs hP hD hS => ?_)
          refine lv_goto (tgt := 92) hx hb dX8_signRest_110 (by decide) ?_
          exact ih_L92 r2023.1 r2023.2.1 r2023.2.2 out_L92 _ _ _ hM hP hD hS (lv_sub hl [0] rfl) kx_L92
    obtain ⟨r3, hcr3, hM⟩ := ob_use hM
    refine lp_L92 o_C o_X o_L o_N o_U FU o_T o_O o_E r3 _ _ _ hcr3 hP hD hS (lv_sub hl [1] rfl) (fun H locs ls hP hD hS hl => ?_)
    refine lv_aload_n hx hb dX8_signRest_113 rfl (lv_at hl 0 rfl) ?_
    refine lv_dup hx hb dX8_signRest_114 rfl ?_
    refine va_get (D := D) (ci := 8) (v := .int r3.2.2.2.1) (C := RX8) (T := TX8) (N := 48) hx hb hts layX8 hown hK hP 0 rfl rfl 35 (by decide) (hts _ (inA q1013)) (fun _ h9 => h9) rfl dX8_signRest_115 ?_
    refine lv_iconst (v := 1) hx hb dX8_signRest_118 (by decide) ?_
    refine lv_isub hx hb dX8_signRest_119 ?_
    refine va_put (D := D) (ci := 8) (v := .int (r3.2.2.2.1 - 1)) (ty := .int) (C := RX8) (T := TX8) (N := 48) hx hb hts layX8 tyX8 tyX8_ok nmX8 hown hK hP hD hS 0 rfl rfl 35 (by decide) (hts _ (inA q1013)) (fun _ h9 => h9) rfl (by decide +kernel) rfl rfl (Nat.le_of_ble_eq_true rfl) dX8_signRest_120 (fun H locs hP hD hS => ?_)
    have hP : va_P D vwCl (wM0 ad o_X o_L o_N r3.1 o_U r3.2.1 (r3.2.2.1, r3.2.2.2.1 - 1, r3.2.2.2.2) o_Q o_V o_I ++ wMC cI ad o_C ++ wMX cI ad o_X ++ wMN cI ad o_N ++ wMT cI ad r3.1 ++ wMU cI ad o_U ++ wME cI ad (r3.2.2.1, r3.2.2.2.1 - 1, r3.2.2.2.2)) H := hP
    have hD : va_D A (wM0 ad o_X o_L o_N r3.1 o_U r3.2.1 (r3.2.2.1, r3.2.2.2.1 - 1, r3.2.2.2.2) o_Q o_V o_I ++ wMC cI ad o_C ++ wMX cI ad o_X ++ wMN cI ad o_N ++ wMT cI ad r3.1 ++ wMU cI ad o_U ++ wME cI ad (r3.2.2.1, r3.2.2.2.1 - 1, r3.2.2.2.2)) := hD
    refine lv_aload_n hx hb dX8_signRest_123 rfl (lv_at hl 0 rfl) ?_
    refine lv_dup hx hb dX8_signRest_124 rfl ?_
    refine va_get (D := D) (ci := 8) (v := .int r3.2.1.2.2.1) (C := RX8) (T := TX8) (N := 48) hx hb hts layX8 hown hK hP 0 rfl rfl 29 (by decide) (hts _ (inA q1007)) (fun _ h9 => h9) rfl dX8_signRest_125 ?_
    refine lv_iconst (v := 1) hx hb dX8_signRest_128 (by decide) ?_
    refine lv_isub hx hb dX8_signRest_129 ?_
    refine va_put (D := D) (ci := 8) (v := .int (r3.2.1.2.2.1 - 1)) (ty := .int) (C := RX8) (T := TX8) (N := 48) hx hb hts layX8 tyX8 tyX8_ok nmX8 hown hK hP hD hS 0 rfl rfl 29 (by decide) (hts _ (inA q1007)) (fun _ h9 => h9) rfl (by decide +kernel) rfl rfl (Nat.le_of_ble_eq_true rfl) dX8_signRest_130 (fun H locs hP hD hS => ?_)
    have hP : va_P D vwCl (wM0 ad o_X o_L o_N r3.1 o_U (r3.2.1.1, r3.2.1.2.1, r3.2.1.2.2.1 - 1, r3.2.1.2.2.2) (r3.2.2.1, r3.2.2.2.1 - 1, r3.2.2.2.2) o_Q o_V o_I ++ wMC cI ad o_C ++ wMX cI ad o_X ++ wMN cI ad o_N ++ wMT cI ad r3.1 ++ wMU cI ad o_U ++ wME cI ad (r3.2.2.1, r3.2.2.2.1 - 1, r3.2.2.2.2)) H := hP
    have hD : va_D A (wM0 ad o_X o_L o_N r3.1 o_U (r3.2.1.1, r3.2.1.2.1, r3.2.1.2.2.1 - 1, r3.2.1.2.2.2) (r3.2.2.1, r3.2.2.2.1 - 1, r3.2.2.2.2) o_Q o_V o_I ++ wMC cI ad o_C ++ wMX cI ad o_X ++ wMN cI ad o_N ++ wMT cI ad r3.1 ++ wMU cI ad o_U ++ wME cI ad (r3.2.2.1, r3.2.2.2.1 - 1, r3.2.2.2.2)) := hD
    refine lv_aload_n hx hb dX8_signRest_133 rfl (lv_at hl 0 rfl) ?_
    refine va_get (D := D) (ci := 8) (v := .int (r3.2.1.2.2.1 - 1)) (C := RX8) (T := TX8) (N := 48) hx hb hts layX8 hown hK hP 0 rfl rfl 29 (by decide) (hts _ (inA q1007)) (fun _ h9 => h9) rfl dX8_signRest_134 ?_
    refine lv_if_ne (tgt := 158) hx hb dX8_signRest_137 (by decide) (fun c4 => ?_) (fun c4 => ?_)
    · replace hM := if_f c4 hM
      cases hM
      exact rt_v hx hb hr hlk hP hD hS rfl dX8_signRest_158
    · replace hM := if_t c4 hM
      refine lv_aload_n hx hb dX8_signRest_140 rfl (lv_at hl 0 rfl) ?_
      refine lv_dup hx hb dX8_signRest_141 rfl ?_
      refine va_get (D := D) (ci := 8) (v := .int r3.2.1.1) (C := RX8) (T := TX8) (N := 48) hx hb hts layX8 hown hK hP 0 rfl rfl 27 (by decide) (hts _ (inA q1005)) (fun _ h9 => h9) rfl dX8_signRest_142 ?_
      refine lv_aload_n hx hb dX8_signRest_145 rfl (lv_at hl 0 rfl) ?_
      refine va_get (D := D) (ci := 8) (v := .int r3.2.1.2.1) (C := RX8) (T := TX8) (N := 48) hx hb hts layX8 hown hK hP 0 rfl rfl 28 (by decide) (hts _ (inA q1006)) (fun _ h9 => h9) rfl dX8_signRest_146 ?_
      refine lv_isub hx hb dX8_signRest_149 ?_
      refine va_put (D := D) (ci := 8) (v := .int (r3.2.1.1 - r3.2.1.2.1)) (ty := .int) (C := RX8) (T := TX8) (N := 48) hx hb hts layX8 tyX8 tyX8_ok nmX8 hown hK hP hD hS 0 rfl rfl 27 (by decide) (hts _ (inA q1005)) (fun _ h9 => h9) rfl (by decide +kernel) rfl rfl (Nat.le_of_ble_eq_true rfl) dX8_signRest_150 (fun H locs hP hD hS => ?_)
      have hP : va_P D vwCl (wM0 ad o_X o_L o_N r3.1 o_U (r3.2.1.1 - r3.2.1.2.1, r3.2.1.2.1, r3.2.1.2.2.1 - 1, r3.2.1.2.2.2) (r3.2.2.1, r3.2.2.2.1 - 1, r3.2.2.2.2) o_Q o_V o_I ++ wMC cI ad o_C ++ wMX cI ad o_X ++ wMN cI ad o_N ++ wMT cI ad r3.1 ++ wMU cI ad o_U ++ wME cI ad (r3.2.2.1, r3.2.2.2.1 - 1, r3.2.2.2.2)) H := hP
      have hD : va_D A (wM0 ad o_X o_L o_N r3.1 o_U (r3.2.1.1 - r3.2.1.2.1, r3.2.1.2.1, r3.2.1.2.2.1 - 1, r3.2.1.2.2.2) (r3.2.2.1, r3.2.2.2.1 - 1, r3.2.2.2.2) o_Q o_V o_I ++ wMC cI ad o_C ++ wMX cI ad o_X ++ wMN cI ad o_N ++ wMT cI ad r3.1 ++ wMU cI ad o_U ++ wME cI ad (r3.2.2.1, r3.2.2.2.1 - 1, r3.2.2.2.2)) := hD
      refine lv_aload_n hx hb dX8_signRest_153 rfl (lv_at hl 0 rfl) ?_
      refine lv_iconst (v := 0) hx hb dX8_signRest_154 (by decide) ?_
      refine va_put (D := D) (ci := 8) (v := .int 0) (ty := .int) (C := RX8) (T := TX8) (N := 48) hx hb hts layX8 tyX8 tyX8_ok nmX8 hown hK hP hD hS 0 rfl rfl 28 (by decide) (hts _ (inA q1006)) (fun _ h9 => h9) rfl (by decide +kernel) rfl rfl (Nat.le_of_ble_eq_true rfl) dX8_signRest_155 (fun H locs hP hD hS => ?_)
      have hP : va_P D vwCl (wM0 ad o_X o_L o_N r3.1 o_U (r3.2.1.1 - r3.2.1.2.1, 0, r3.2.1.2.2.1 - 1, r3.2.1.2.2.2) (r3.2.2.1, r3.2.2.2.1 - 1, r3.2.2.2.2) o_Q o_V o_I ++ wMC cI ad o_C ++ wMX cI ad o_X ++ wMN cI ad o_N ++ wMT cI ad r3.1 ++ wMU cI ad o_U ++ wME cI ad (r3.2.2.1, r3.2.2.2.1 - 1, r3.2.2.2.2)) H := hP
      have hD : va_D A (wM0 ad o_X o_L o_N r3.1 o_U (r3.2.1.1 - r3.2.1.2.1, 0, r3.2.1.2.2.1 - 1, r3.2.1.2.2.2) (r3.2.2.1, r3.2.2.2.1 - 1, r3.2.2.2.2) o_Q o_V o_I ++ wMC cI ad o_C ++ wMX cI ad o_X ++ wMN cI ad o_N ++ wMT cI ad r3.1 ++ wMU cI ad o_U ++ wME cI ad (r3.2.2.1, r3.2.2.2.1 - 1, r3.2.2.2.2)) := hD
      cases hM
      exact rt_v hx hb hr hlk hP hD hS rfl dX8_signRest_158
  · replace hM := if_f c2 hM
    refine lv_aload_n hx hb dX8_signRest_9 rfl (lv_at hl 1 rfl) ?_
    obtain ⟨r5, hcr5, hM⟩ := ob_use hM
    refine cl_V (As := []) (rest := []) (wM0 ad o_X r5.2.1 o_N o_T o_U r5.2.2 o_E o_Q o_V o_I ++ wMC cI ad o_C ++ wMX cI ad o_X ++ wMN cI ad o_N ++ wMT cI ad o_T ++ wMU cI ad o_U ++ wME cI ad o_E) (.int r5.1 :: []) ⟨hx, hb, hml, hown, hts⟩ (c_Model_opens l D cI sd ad o_C o_X o_N o_T o_U o_E o_Q o_V o_I o_L o_O r5 hcr5) (cwV2 hts q1321 mvX8_opens rfl rfl ⟨(Nat.le_of_ble_eq_true rfl), (Nat.le_of_ble_eq_true rfl)⟩) hK hE hA hP hD hS 0 (T := TX8) (N := 48) (ci := 8) rfl rfl [0] rfl (by decide) rfl rfl rfl rfl rfl rfl hl.1 (Nat.le_of_ble_eq_true rfl) dX8_signRest_10 ⟨Nat.zero_le _, Nat.zero_le _⟩ (fun H locs hP hD hS => ?_)
    refine lv_if_eq (tgt := 91) hx hb dX8_signRest_13 (by decide) (fun c6 => ?_) (fun c6 => ?_)
    · replace hM := if_t c6 hM
      cases hM
      exact rt_v hx hb hr hlk hP hD hS rfl dX8_signRest_91
    · replace hM := if_f c6 hM
      refine lv_aload_n hx hb dX8_signRest_16 rfl (lv_at hl 1 rfl) ?_
      refine lv_dup hx hb dX8_signRest_17 rfl ?_
      refine va_get (D := D) (ci := 8) (v := .int r5.2.2.2.1) (C := RX8) (T := TX8) (N := 48) hx hb hts layX8 hown hK hP 0 rfl rfl 28 (by decide) (hts _ (inA q1006)) (fun _ h9 => h9) rfl dX8_signRest_18 ?_
      refine lv_iconst (v := 1) hx hb dX8_signRest_21 (by decide) ?_
      refine lv_iadd hx hb dX8_signRest_22 ?_
      refine va_put (D := D) (ci := 8) (v := .int (r5.2.2.2.1 + 1)) (ty := .int) (C := RX8) (T := TX8) (N := 48) hx hb hts layX8 tyX8 tyX8_ok nmX8 hown hK hP hD hS 0 rfl rfl 28 (by decide) (hts _ (inA q1006)) (fun _ h9 => h9) rfl (by decide +kernel) rfl rfl (Nat.le_of_ble_eq_true rfl) dX8_signRest_23 (fun H locs hP hD hS => ?_)
      have hP : va_P D vwCl (wM0 ad o_X r5.2.1 o_N o_T o_U (r5.2.2.1, r5.2.2.2.1 + 1, r5.2.2.2.2) o_E o_Q o_V o_I ++ wMC cI ad o_C ++ wMX cI ad o_X ++ wMN cI ad o_N ++ wMT cI ad o_T ++ wMU cI ad o_U ++ wME cI ad o_E) H := hP
      have hD : va_D A (wM0 ad o_X r5.2.1 o_N o_T o_U (r5.2.2.1, r5.2.2.2.1 + 1, r5.2.2.2.2) o_E o_Q o_V o_I ++ wMC cI ad o_C ++ wMX cI ad o_X ++ wMN cI ad o_N ++ wMT cI ad o_T ++ wMU cI ad o_U ++ wME cI ad o_E) := hD
      have lp_L26 : ∀ (w1_L26 : Int32) (o_C_L26 : S_MC) (o_X_L26 : S_MX) (o_L_L26 : S_ML) (o_N_L26 : S_MN) (o_U_L26 : S_MU) (n : Nat) (o_T_L26 : S_MT) (o_O_L26 : S_MO) (o_E_L26 : S_ME) (out_L26 : S_MT × S_MO × S_ME) (H : Heap) (locs : List Loc) (ls : Array Slot), f_Model_signRest_L26 w1_L26 n o_T_L26 o_O_L26 o_E_L26 = some out_L26 → va_P D vwCl (wM0 ad o_X_L26 o_L_L26 o_N_L26 o_T_L26 o_U_L26 o_O_L26 o_E_L26 o_Q o_V o_I ++ wMC cI ad o_C_L26 ++ wMX cI ad o_X_L26 ++ wMN cI ad o_N_L26 ++ wMT cI ad o_T_L26 ++ wMU cI ad o_U_L26 ++ wME cI ad o_E_L26) H → va_D A (wM0 ad o_X_L26 o_L_L26 o_N_L26 o_T_L26 o_U_L26 o_O_L26 o_E_L26 o_Q o_V o_I ++ wMC cI ad o_C_L26 ++ wMX cI ad o_X_L26 ++ wMN cI ad o_N_L26 ++ wMT cI ad o_T_L26 ++ wMU cI ad o_U_L26 ++ wME cI ad o_E_L26) → va_S A s.heap H locs → lv_has ls 2 [(1, .int w1_L26), (0, .ref (ad 100))] → (∀ (H : Heap) (locs : List Loc) (ls : Array Slot), va_P D vwCl (wM0 ad o_X_L26 o_L_L26 o_N_L26 out_L26.1 o_U_L26 out_L26.2.1 out_L26.2.2 o_Q o_V o_I ++ wMC cI ad o_C_L26 ++ wMX cI ad o_X_L26 ++ wMN cI ad o_N_L26 ++ wMT cI ad out_L26.1 ++ wMU cI ad o_U_L26 ++ wME cI ad out_L26.2.2) H → va_D A (wM0 ad o_X_L26 o_L_L26 o_N_L26 out_L26.1 o_U_L26 out_L26.2.1 out_L26.2.2 o_Q o_V o_I ++ wMC cI ad o_C_L26 ++ wMX cI ad o_X_L26 ++ wMN cI ad o_N_L26 ++ wMT cI ad out_L26.1 ++ wMU cI ad o_U_L26 ++ wME cI ad out_L26.2.2) → va_S A s.heap H locs → lv_has ls 2 [(1, .int w1_L26), (0, .ref (ad 100))] → W p l e { frames := 5, cells := 0, slots := 0, locals := 112 } s m [.ref (ad 100)].toArray below meth c H locs 0 0 (MQ below (CQ D A (wM0 ad o_X res.1 res.2.1 res.2.2.1 res.2.2.2.1 res.2.2.2.2.1 res.2.2.2.2.2 o_Q o_V o_I ++ wMC cI ad o_C ++ wMX cI ad o_X ++ wMN cI ad res.2.1 ++ wMT cI ad res.2.2.1 ++ wMU cI ad res.2.2.2.1 ++ wME cI ad res.2.2.2.2.2) none) [.ref (ad 100)].toArray s 0 0 A) (F0 m 68 ls [])) → W p l e { frames := 5, cells := 0, slots := 0, locals := 112 } s m [.ref (ad 100)].toArray below meth c H locs 0 0 (MQ below (CQ D A (wM0 ad o_X res.1 res.2.1 res.2.2.1 res.2.2.2.1 res.2.2.2.2.1 res.2.2.2.2.2 o_Q o_V o_I ++ wMC cI ad o_C ++ wMX cI ad o_X ++ wMN cI ad res.2.1 ++ wMT cI ad res.2.2.1 ++ wMU cI ad res.2.2.2.1 ++ wME cI ad res.2.2.2.2.2) none) [.ref (ad 100)].toArray s 0 0 A) (F0 m 26 ls []) := by
        intro w1_L26 o_C_L26 o_X_L26 o_L_L26 o_N_L26 o_U_L26 n
        induction n with
        | zero => intro o_T_L26 o_O_L26 o_E_L26 out_L26 H locs ls hM; exact absurd (show none = some _ from hM) (by simp)
        | succ n ih_L26 =>
          intro o_T_L26 o_O_L26 o_E_L26 out_L26 H locs ls hM hP hD hS hl kx_L26
          rw [f_Model_signRest_L26] at hM
          refine lv_aload_n hx hb dX8_signRest_26 rfl (lv_at hl 1 rfl) ?_
          refine va_get (D := D) (ci := 8) (v := .ref (ad 117)) (C := RX8) (T := TX8) (N := 48) hx hb hts layX8 hown hK hP 0 rfl rfl 36 (by decide) (hts _ (inA q1014)) (fun _ h9 => h9) rfl dX8_signRest_27 ?_
          refine lv_aload_n hx hb dX8_signRest_30 rfl (lv_at hl 1 rfl) ?_
          refine va_get (D := D) (ci := 8) (v := .int o_E_L26.2.1) (C := RX8) (T := TX8) (N := 48) hx hb hts layX8 hown hK hP 0 rfl rfl 35 (by decide) (hts _ (inA q1013)) (fun _ h9 => h9) rfl dX8_signRest_31 ?_
          refine lv_iconst (v := 1) hx hb dX8_signRest_34 (by decide) ?_
          refine lv_isub hx hb dX8_signRest_35 ?_
          obtain ⟨b1361, hM⟩ := gd_use hM
          refine va_iald hx hb hK hP 17 0 rfl rfl b1361 dX8_signRest_36 ?_
          refine lv_if_lt (tgt := 68) hx hb dX8_signRest_37 (by decide) (fun c1362 => ?_) (fun c1362 => ?_)
          · replace hM := if_t c1362 hM
            cases hM
            exact kx_L26 _ _ _ hP hD hS (lv_sub hl [0, 1] rfl)
          · replace hM := if_f c1362 hM
            refine lv_aload_n hx hb dX8_signRest_40 rfl (lv_at hl 1 rfl) ?_
            refine va_get (D := D) (ci := 8) (v := .ref (ad 117)) (C := RX8) (T := TX8) (N := 48) hx hb hts layX8 hown hK hP 0 rfl rfl 36 (by decide) (hts _ (inA q1014)) (fun _ h9 => h9) rfl dX8_signRest_41 ?_
            refine lv_aload_n hx hb dX8_signRest_44 rfl (lv_at hl 1 rfl) ?_
            refine va_get (D := D) (ci := 8) (v := .int o_E_L26.2.1) (C := RX8) (T := TX8) (N := 48) hx hb hts layX8 hown hK hP 0 rfl rfl 35 (by decide) (hts _ (inA q1013)) (fun _ h9 => h9) rfl dX8_signRest_45 ?_
            refine lv_iconst (v := 1) hx hb dX8_signRest_48 (by decide) ?_
            refine lv_isub hx hb dX8_signRest_49 ?_
            obtain ⟨b1363, hM⟩ := gd_use hM
            refine va_iald hx hb hK hP 17 0 rfl rfl b1363 dX8_signRest_50 ?_
            obtain ⟨r1364, hcr1364, hM⟩ := ob_use hM
            refine cl_S (As := [.int (o_E_L26.2.2.2.2.1 (o_E_L26.2.1 - 1).toNatClampNeg)]) (rest := []) (wM0 ad o_X_L26 o_L_L26 o_N_L26 o_T_L26 o_U_L26 o_O_L26 o_E_L26 o_Q o_V o_I ++ wMC cI ad o_C_L26 ++ wMX cI ad o_X_L26 ++ wMN cI ad o_N_L26 ++ wMT cI ad o_T_L26 ++ wMU cI ad o_U_L26 ++ wME cI ad o_E_L26) (.int r1364 :: []) ⟨hx, hb, hml, hown, hts⟩ (c_Model_closeness l D cI sd ad (o_E_L26.2.2.2.2.1 (o_E_L26.2.1 - 1).toNatClampNeg) r1364 hcr1364) (cwS2 hts q1413 mvX8_closeness rfl rfl ⟨(Nat.le_of_ble_eq_true rfl), (Nat.le_of_ble_eq_true rfl)⟩) hK hE hA hP hD hS [] rfl (by decide) rfl rfl rfl rfl rfl rfl hl.1 (Nat.le_of_ble_eq_true rfl) dX8_signRest_51 ⟨Nat.zero_le _, Nat.zero_le _⟩ (fun H locs hP hD hS => ?_)
            refine lv_iload_n hx hb dX8_signRest_54 rfl (lv_at hl 0 rfl) ?_
            obtain ⟨r1365, hcr1365, hM⟩ := ob_use hM
            refine cl_S (As := [.int w1_L26]) (rest := [.int r1364]) (wM0 ad o_X_L26 o_L_L26 o_N_L26 o_T_L26 o_U_L26 o_O_L26 o_E_L26 o_Q o_V o_I ++ wMC cI ad o_C_L26 ++ wMX cI ad o_X_L26 ++ wMN cI ad o_N_L26 ++ wMT cI ad o_T_L26 ++ wMU cI ad o_U_L26 ++ wME cI ad o_E_L26) (.int r1365 :: [.int r1364]) ⟨hx, hb, hml, hown, hts⟩ (c_Model_closeness l D cI sd ad w1_L26 r1365 hcr1365) (cwS2 hts q1413 mvX8_closeness rfl rfl ⟨(Nat.le_of_ble_eq_true rfl), (Nat.le_of_ble_eq_true rfl)⟩) hK hE hA hP hD hS [] rfl (by decide) rfl rfl rfl rfl rfl rfl hl.1 (Nat.le_of_ble_eq_true rfl) dX8_signRest_55 ⟨Nat.zero_le _, Nat.zero_le _⟩ (fun H locs hP hD hS => ?_)
            refine lv_icmp_lt (tgt := 68) hx hb dX8_signRest_58 (by decide) (fun c1366 => ?_) (fun c1366 => ?_)
            · replace hM := if_t c1366 hM
              cases hM
              exact kx_L26 _ _ _ hP hD hS (lv_sub hl [0, 1] rfl)
            · replace hM := if_f c1366 hM
              refine lv_aload_n hx hb dX8_signRest_61 rfl (lv_at hl 1 rfl) ?_
              obtain ⟨r1367, hcr1367, hM⟩ := ob_use hM
              refine cl_V (As := []) (rest := []) (wM0 ad o_X_L26 o_L_L26 o_N_L26 r1367.1 o_U_L26 r1367.2.1 r1367.2.2 o_Q o_V o_I ++ wMC cI ad o_C_L26 ++ wMX cI ad o_X_L26 ++ wMN cI ad o_N_L26 ++ wMT cI ad r1367.1 ++ wMU cI ad o_U_L26 ++ wME cI ad r1367.2.2) [] ⟨hx, hb, hml, hown, hts⟩ (c_Model_settle l D cI sd ad o_C_L26 o_X_L26 o_L_L26 o_N_L26 o_U_L26 o_Q o_V o_I o_T_L26 o_O_L26 o_E_L26 r1367 hcr1367) (cwV2 hts q1397 mvX8_settle rfl rfl ⟨(Nat.le_of_ble_eq_true rfl), (Nat.le_of_ble_eq_true rfl)⟩) hK hE hA hP hD hS 0 (T := TX8) (N := 48) (ci := 8) rfl rfl [0, 8, 9, 10, 11, 12, 13, 14, 16, 17, 18, 19] rfl (by decide) rfl rfl rfl rfl rfl rfl hl.1 (Nat.le_of_ble_eq_true rfl) dX8_signRest_62 ⟨Nat.zero_le _, Nat.zero_le _⟩ (fun H locs hP hD hS => ?_)
              refine lv_goto (tgt := 26) hx hb dX8_signRest_65 (by decide) ?_
              exact ih_L26 r1367.1 r1367.2.1 r1367.2.2 out_L26 _ _ _ hM hP hD hS (lv_sub hl [0, 1] rfl) kx_L26
      obtain ⟨r7, hcr7, hM⟩ := ob_use hM
      refine lp_L26 r1 o_C o_X r5.2.1 o_N o_U FU o_T (r5.2.2.1, r5.2.2.2.1 + 1, r5.2.2.2.2) o_E r7 _ _ _ hcr7 hP hD hS (lv_sub hl [0, 1] rfl) (fun H locs ls hP hD hS hl => ?_)
      refine lv_aload_n hx hb dX8_signRest_68 rfl (lv_at hl 1 rfl) ?_
      refine lv_iload_n hx hb dX8_signRest_69 rfl (lv_at hl 0 rfl) ?_
      refine lv_aload_n hx hb dX8_signRest_70 rfl (lv_at hl 1 rfl) ?_
      refine va_get (D := D) (ci := 8) (v := .int r5.2.1.1) (C := RX8) (T := TX8) (N := 48) hx hb hts layX8 hown hK hP 0 rfl rfl 6 (by decide) (hts _ (inA q984)) (fun _ h9 => h9) rfl dX8_signRest_71 ?_
      obtain ⟨r8, hcr8, hM⟩ := ob_use hM
      refine cl_V (As := [.int r1, .int r5.2.1.1]) (rest := []) (wM0 ad o_X r5.2.1 o_N r7.1 o_U r7.2.1 r8 o_Q o_V o_I ++ wMC cI ad o_C ++ wMX cI ad o_X ++ wMN cI ad o_N ++ wMT cI ad r7.1 ++ wMU cI ad o_U ++ wME cI ad r8) [] ⟨hx, hb, hml, hown, hts⟩ (c_Model_waitFor l D cI sd ad o_C o_X r5.2.1 o_N r7.1 o_U r7.2.1 o_Q o_V o_I r7.2.2 r1 r5.2.1.1 r8 hcr8) (cwV2 hts q1381 mvX8_waitFor rfl rfl ⟨(Nat.le_of_ble_eq_true rfl), (Nat.le_of_ble_eq_true rfl)⟩) hK hE hA hP hD hS 0 (T := TX8) (N := 48) (ci := 8) rfl rfl [0, 16, 17, 18, 19] rfl (by decide) rfl rfl rfl rfl rfl rfl hl.1 (Nat.le_of_ble_eq_true rfl) dX8_signRest_74 ⟨Nat.zero_le _, Nat.zero_le _⟩ (fun H locs hP hD hS => ?_)
      refine lv_aload_n hx hb dX8_signRest_77 rfl (lv_at hl 1 rfl) ?_
      refine lv_sipush (v := 136) hx hb dX8_signRest_78 (by decide) ?_
      refine lv_sipush (v := 135) hx hb dX8_signRest_81 (by decide) ?_
      obtain ⟨r9, hcr9, hM⟩ := ob_use hM
      refine cl_V (As := [.int 136, .int 135]) (rest := []) (wM0 ad o_X r5.2.1 o_N r7.1 r9 r7.2.1 r8 o_Q o_V o_I ++ wMC cI ad o_C ++ wMX cI ad o_X ++ wMN cI ad o_N ++ wMT cI ad r7.1 ++ wMU cI ad r9 ++ wME cI ad r8) [] ⟨hx, hb, hml, hown, hts⟩ (c_Model_push2 l D cI sd ad o_C o_X r5.2.1 o_N r7.1 r7.2.1 r8 o_Q o_V o_I o_U 136 135 r9 hcr9) (cwV2 hts q1257 mvX8_push2 rfl rfl ⟨(Nat.le_of_ble_eq_true rfl), (Nat.le_of_ble_eq_true rfl)⟩) hK hE hA hP hD hS 0 (T := TX8) (N := 48) (ci := 8) rfl rfl [0, 15] rfl (by decide) rfl rfl rfl rfl rfl rfl hl.1 (Nat.le_of_ble_eq_true rfl) dX8_signRest_84 ⟨Nat.zero_le _, Nat.zero_le _⟩ (fun H locs hP hD hS => ?_)
      refine lv_aload_n hx hb dX8_signRest_87 rfl (lv_at hl 1 rfl) ?_
      obtain ⟨r10, hcr10, hM⟩ := ob_use hM
      refine cl_V (As := []) (rest := []) (wM0 ad o_X r10.1 r10.2 r7.1 r9 r7.2.1 r8 o_Q o_V o_I ++ wMC cI ad o_C ++ wMX cI ad o_X ++ wMN cI ad r10.2 ++ wMT cI ad r7.1 ++ wMU cI ad r9 ++ wME cI ad r8) [] ⟨hx, hb, hml, hown, hts⟩ (c_Model_step l D cI sd ad r7.1 r9 r7.2.1 r8 o_Q o_V o_I o_C o_X r5.2.1 o_N r10 hcr10) (cwV2 hts q1151 mvX8_step rfl rfl ⟨(Nat.le_of_ble_eq_true rfl), (Nat.le_of_ble_eq_true rfl)⟩) hK hE hA hP hD hS 0 (T := TX8) (N := 48) (ci := 8) rfl rfl [0, 1, 2, 3, 4, 5, 6, 7] rfl (by decide) rfl rfl rfl rfl rfl rfl hl.1 (Nat.le_of_ble_eq_true rfl) dX8_signRest_88 ⟨Nat.zero_le _, Nat.zero_le _⟩ (fun H locs hP hD hS => ?_)
      cases hM
      exact rt_v hx hb hr hlk hP hD hS rfl dX8_signRest_91

set_option maxHeartbeats 4000000 in
set_option maxRecDepth 100000 in
theorem c_Model_cell (l : Launch) (D : va_G) (cI : ClassId) (sd : Nat → Nat) (ad : Nat → Nat) (o_O : S_MO) (o_E : S_ME) (o_Q : S_MQ) (o_V : S_MV) (o_I : S_MI) (o_C : S_MC) (o_X : S_MX) (o_L : S_ML) (o_N : S_MN) (o_T : S_MT) (o_U : S_MU) (res : S_ML × S_MN × S_MT × S_MU) (hM : f_Model_cell o_C o_X o_L o_N o_T o_U = some res) : Ctr l D cI sd yX8_cell (wsM yX8_cell cX8_cell 2 (Option.none : Option Jvm.ClassFile.FieldType)) { frames := 5, cells := 0, slots := 0, locals := 112 } [.ref (ad 100)] (wM0 ad o_X o_L o_N o_T o_U o_O o_E o_Q o_V o_I ++ wMC cI ad o_C ++ wMX cI ad o_X ++ wMN cI ad o_N ++ wMT cI ad o_T ++ wMU cI ad o_U) (wM0 ad o_X res.1 res.2.1 res.2.2.1 res.2.2.2 o_O o_E o_Q o_V o_I ++ wMC cI ad o_C ++ wMX cI ad o_X ++ wMN cI ad res.2.1 ++ wMT cI ad res.2.2.1 ++ wMU cI ad res.2.2.2) none := by
  refine Ctr.of (cc := cX8_cell) (maxL := 2) (own := RX8) (by decide +kernel) rfl rfl (Nat.le_of_ble_eq_true rfl) ?_
  intro p e s m below meth c A ls hx hb hr hml hown hts hlk hK hE hA hP hD hS hl
  have hl : lv_has ls 2 [(0, .ref (ad 100))] := hl
  unfold f_Model_cell at hM
  refine lv_aload_n hx hb dX8_cell_0 rfl (lv_at hl 0 rfl) ?_
  refine va_get (D := D) (ci := 8) (v := .int o_L.2.1) (C := RX8) (T := TX8) (N := 48) hx hb hts layX8 hown hK hP 0 rfl rfl 7 (by decide) (hts _ (inA q985)) (fun _ h9 => h9) rfl dX8_cell_1 ?_
  refine lv_bipush (v := 66) hx hb dX8_cell_4 (by decide) ?_
  refine lv_icmp_ne (tgt := 13) hx hb dX8_cell_6 (by decide) (fun c1 => ?_) (fun c1 => ?_)
  · replace hM := if_f c1 hM
    refine lv_aload_n hx hb dX8_cell_13 rfl (lv_at hl 0 rfl) ?_
    refine va_get (D := D) (ci := 8) (v := .int o_L.2.1) (C := RX8) (T := TX8) (N := 48) hx hb hts layX8 hown hK hP 0 rfl rfl 7 (by decide) (hts _ (inA q985)) (fun _ h9 => h9) rfl dX8_cell_14 ?_
    refine lv_bipush (v := 69) hx hb dX8_cell_17 (by decide) ?_
    refine lv_icmp_ne (tgt := 26) hx hb dX8_cell_19 (by decide) (fun c2 => ?_) (fun c2 => ?_)
    · replace hM := if_f c2 hM
      refine lv_aload_n hx hb dX8_cell_26 rfl (lv_at hl 0 rfl) ?_
      refine va_get (D := D) (ci := 8) (v := .int o_L.2.1) (C := RX8) (T := TX8) (N := 48) hx hb hts layX8 hown hK hP 0 rfl rfl 7 (by decide) (hts _ (inA q985)) (fun _ h9 => h9) rfl dX8_cell_27 ?_
      refine lv_bipush (v := 68) hx hb dX8_cell_30 (by decide) ?_
      refine lv_icmp_ne (tgt := 39) hx hb dX8_cell_32 (by decide) (fun c3 => ?_) (fun c3 => ?_)
      · replace hM := if_f c3 hM
        refine lv_iconst (v := 0) hx hb dX8_cell_39 (by decide) ?_
        refine lv_istore_n (lv' := [(1, .int 0), (0, .ref (ad 100))]) hx hb dX8_cell_40 rfl hl (by decide) rfl (fun ls hl => ?_)
        refine lv_iload_n hx hb dX8_cell_41 rfl (lv_at hl 0 rfl) ?_
        refine lv_if_gt (tgt := 54) hx hb dX8_cell_42 (by decide) (fun c4 => False.elim (by revert c4; decide)) (fun c4 => ?_)
        refine lv_aload_n hx hb dX8_cell_45 rfl (lv_at hl 1 rfl) ?_
        refine va_get (D := D) (ci := 8) (v := .int o_L.2.1) (C := RX8) (T := TX8) (N := 48) hx hb hts layX8 hown hK hP 0 rfl rfl 7 (by decide) (hts _ (inA q985)) (fun _ h9 => h9) rfl dX8_cell_46 ?_
        refine lv_bipush (v := 80) hx hb dX8_cell_49 (by decide) ?_
        refine lv_icmp_ne (tgt := 85) hx hb dX8_cell_51 (by decide) (fun c5 => ?_) (fun c5 => ?_)
        · replace hM := if_f c5 hM
          refine lv_aload_n hx hb dX8_cell_85 rfl (lv_at hl 1 rfl) ?_
          refine va_get (D := D) (ci := 8) (v := .int o_L.2.1) (C := RX8) (T := TX8) (N := 48) hx hb hts layX8 hown hK hP 0 rfl rfl 7 (by decide) (hts _ (inA q985)) (fun _ h9 => h9) rfl dX8_cell_86 ?_
          refine lv_bipush (v := 64) hx hb dX8_cell_89 (by decide) ?_
          refine lv_icmp_eq (tgt := 103) hx hb dX8_cell_91 (by decide) (fun c6 => ?_) (fun c6 => ?_)
          · replace hM := if_t c6 hM
            refine lv_aload_n hx hb dX8_cell_103 rfl (lv_at hl 1 rfl) ?_
            refine lv_aload_n hx hb dX8_cell_104 rfl (lv_at hl 1 rfl) ?_
            refine va_get (D := D) (ci := 8) (v := .int o_L.2.1) (C := RX8) (T := TX8) (N := 48) hx hb hts layX8 hown hK hP 0 rfl rfl 7 (by decide) (hts _ (inA q985)) (fun _ h9 => h9) rfl dX8_cell_105 ?_
            refine lv_bipush (v := 64) hx hb dX8_cell_108 (by decide) ?_
            refine lv_icmp_ne (tgt := 118) hx hb dX8_cell_110 (by decide) (fun c7 => ?_) (fun c7 => ?_)
            · replace hM := if_f c7 hM
              refine lv_bipush (v := 27) hx hb dX8_cell_118 (by decide) ?_
              refine lv_aload_n hx hb dX8_cell_120 rfl (lv_at hl 1 rfl) ?_
              refine va_get (D := D) (ci := 8) (v := .int o_L.1) (C := RX8) (T := TX8) (N := 48) hx hb hts layX8 hown hK hP 0 rfl rfl 6 (by decide) (hts _ (inA q984)) (fun _ h9 => h9) rfl dX8_cell_121 ?_
              refine lv_iconst (v := 0) hx hb dX8_cell_124 (by decide) ?_
              obtain ⟨r8, hcr8, hM⟩ := ob_use hM
              refine cl_V (As := [.int 27, .int o_L.1, .int 0]) (rest := []) (wM0 ad o_X o_L o_N r8 o_U o_O o_E o_Q o_V o_I ++ wMC cI ad o_C ++ wMX cI ad o_X ++ wMN cI ad o_N ++ wMT cI ad r8 ++ wMU cI ad o_U) [] ⟨hx, hb, hml, hown, hts⟩ (c_Model_leaf l D cI sd ad o_C o_X o_L o_N o_U o_O o_E o_Q o_V o_I o_T 27 o_L.1 0 r8 hcr8) (cwV2 hts q1277 mvX8_leaf rfl rfl ⟨(Nat.le_of_ble_eq_true rfl), (Nat.le_of_ble_eq_true rfl)⟩) hK hE hA hP hD hS 0 (T := TX8) (N := 48) (ci := 8) rfl rfl [0, 8, 9, 10, 11, 12, 13, 14] rfl (by decide) rfl rfl rfl rfl rfl rfl hl.1 (Nat.le_of_ble_eq_true rfl) dX8_cell_125 ⟨Nat.zero_le _, Nat.zero_le _⟩ (fun H locs hP hD hS => ?_)
              refine lv_aload_n hx hb dX8_cell_128 rfl (lv_at hl 1 rfl) ?_
              obtain ⟨r9, hcr9, hM⟩ := ob_use hM
              refine cl_V (As := []) (rest := []) (wM0 ad o_X r9.1 r9.2 r8 o_U o_O o_E o_Q o_V o_I ++ wMC cI ad o_C ++ wMX cI ad o_X ++ wMN cI ad r9.2 ++ wMT cI ad r8 ++ wMU cI ad o_U) [] ⟨hx, hb, hml, hown, hts⟩ (c_Model_step l D cI sd ad r8 o_U o_O o_E o_Q o_V o_I o_C o_X o_L o_N r9 hcr9) (cwV2 hts q1151 mvX8_step rfl rfl ⟨(Nat.le_of_ble_eq_true rfl), (Nat.le_of_ble_eq_true rfl)⟩) hK hE hA hP hD hS 0 (T := TX8) (N := 48) (ci := 8) rfl rfl [0, 1, 2, 3, 4, 5, 6, 7] rfl (by decide) rfl rfl rfl rfl rfl rfl hl.1 (Nat.le_of_ble_eq_true rfl) dX8_cell_129 ⟨Nat.zero_le _, Nat.zero_le _⟩ (fun H locs hP hD hS => ?_)
              refine lv_goto (tgt := 180) hx hb dX8_cell_132 (by decide) ?_
              cases hM
              exact rt_v hx hb hr hlk hP hD hS rfl dX8_cell_180
            · replace hM := if_t c7 hM
              refine lv_bipush (v := 26) hx hb dX8_cell_113 (by decide) ?_
              refine lv_goto (tgt := 120) hx hb dX8_cell_115 (by decide) ?_
              refine lv_aload_n hx hb dX8_cell_120 rfl (lv_at hl 1 rfl) ?_
              refine va_get (D := D) (ci := 8) (v := .int o_L.1) (C := RX8) (T := TX8) (N := 48) hx hb hts layX8 hown hK hP 0 rfl rfl 6 (by decide) (hts _ (inA q984)) (fun _ h9 => h9) rfl dX8_cell_121 ?_
              refine lv_iconst (v := 0) hx hb dX8_cell_124 (by decide) ?_
              obtain ⟨r10, hcr10, hM⟩ := ob_use hM
              refine cl_V (As := [.int 26, .int o_L.1, .int 0]) (rest := []) (wM0 ad o_X o_L o_N r10 o_U o_O o_E o_Q o_V o_I ++ wMC cI ad o_C ++ wMX cI ad o_X ++ wMN cI ad o_N ++ wMT cI ad r10 ++ wMU cI ad o_U) [] ⟨hx, hb, hml, hown, hts⟩ (c_Model_leaf l D cI sd ad o_C o_X o_L o_N o_U o_O o_E o_Q o_V o_I o_T 26 o_L.1 0 r10 hcr10) (cwV2 hts q1277 mvX8_leaf rfl rfl ⟨(Nat.le_of_ble_eq_true rfl), (Nat.le_of_ble_eq_true rfl)⟩) hK hE hA hP hD hS 0 (T := TX8) (N := 48) (ci := 8) rfl rfl [0, 8, 9, 10, 11, 12, 13, 14] rfl (by decide) rfl rfl rfl rfl rfl rfl hl.1 (Nat.le_of_ble_eq_true rfl) dX8_cell_125 ⟨Nat.zero_le _, Nat.zero_le _⟩ (fun H locs hP hD hS => ?_)
              refine lv_aload_n hx hb dX8_cell_128 rfl (lv_at hl 1 rfl) ?_
              obtain ⟨r11, hcr11, hM⟩ := ob_use hM
              refine cl_V (As := []) (rest := []) (wM0 ad o_X r11.1 r11.2 r10 o_U o_O o_E o_Q o_V o_I ++ wMC cI ad o_C ++ wMX cI ad o_X ++ wMN cI ad r11.2 ++ wMT cI ad r10 ++ wMU cI ad o_U) [] ⟨hx, hb, hml, hown, hts⟩ (c_Model_step l D cI sd ad r10 o_U o_O o_E o_Q o_V o_I o_C o_X o_L o_N r11 hcr11) (cwV2 hts q1151 mvX8_step rfl rfl ⟨(Nat.le_of_ble_eq_true rfl), (Nat.le_of_ble_eq_true rfl)⟩) hK hE hA hP hD hS 0 (T := TX8) (N := 48) (ci := 8) rfl rfl [0, 1, 2, 3, 4, 5, 6, 7] rfl (by decide) rfl rfl rfl rfl rfl rfl hl.1 (Nat.le_of_ble_eq_true rfl) dX8_cell_129 ⟨Nat.zero_le _, Nat.zero_le _⟩ (fun H locs hP hD hS => ?_)
              refine lv_goto (tgt := 180) hx hb dX8_cell_132 (by decide) ?_
              cases hM
              exact rt_v hx hb hr hlk hP hD hS rfl dX8_cell_180
          · replace hM := if_f c6 hM
            refine lv_aload_n hx hb dX8_cell_94 rfl (lv_at hl 1 rfl) ?_
            refine va_get (D := D) (ci := 8) (v := .int o_L.2.1) (C := RX8) (T := TX8) (N := 48) hx hb hts layX8 hown hK hP 0 rfl rfl 7 (by decide) (hts _ (inA q985)) (fun _ h9 => h9) rfl dX8_cell_95 ?_
            refine lv_bipush (v := 65) hx hb dX8_cell_98 (by decide) ?_
            refine lv_icmp_ne (tgt := 135) hx hb dX8_cell_100 (by decide) (fun c12 => ?_) (fun c12 => ?_)
            · replace hM := if_f c12 hM
              refine lv_aload_n hx hb dX8_cell_135 rfl (lv_at hl 1 rfl) ?_
              refine va_get (D := D) (ci := 8) (v := .int o_L.2.1) (C := RX8) (T := TX8) (N := 48) hx hb hts layX8 hown hK hP 0 rfl rfl 7 (by decide) (hts _ (inA q985)) (fun _ h9 => h9) rfl dX8_cell_136 ?_
              refine lv_bipush (v := 55) hx hb dX8_cell_139 (by decide) ?_
              refine lv_icmp_ne (tgt := 176) hx hb dX8_cell_141 (by decide) (fun c13 => ?_) (fun c13 => ?_)
              · replace hM := if_f c13 hM
                refine lv_aload_n hx hb dX8_cell_176 rfl (lv_at hl 1 rfl) ?_
                obtain ⟨r14, hcr14, hM⟩ := ob_use hM
                refine cl_V (As := []) (rest := []) (wM0 ad o_X r14 o_N o_T o_U o_O o_E o_Q o_V o_I ++ wMC cI ad o_C ++ wMX cI ad o_X ++ wMN cI ad o_N ++ wMT cI ad o_T ++ wMU cI ad o_U) [] ⟨hx, hb, hml, hown, hts⟩ (c_Model_wrong l D cI sd ad o_C o_X o_N o_T o_U o_O o_E o_Q o_V o_I o_L r14 hcr14) (cwV2 hts q1233 mvX8_wrong rfl rfl ⟨(Nat.le_of_ble_eq_true rfl), (Nat.le_of_ble_eq_true rfl)⟩) hK hE hA hP hD hS 0 (T := TX8) (N := 48) (ci := 8) rfl rfl [0] rfl (by decide) rfl rfl rfl rfl rfl rfl hl.1 (Nat.le_of_ble_eq_true rfl) dX8_cell_177 ⟨Nat.zero_le _, Nat.zero_le _⟩ (fun H locs hP hD hS => ?_)
                cases hM
                exact rt_v hx hb hr hlk hP hD hS rfl dX8_cell_180
              · replace hM := if_t c13 hM
                refine lv_aload_n hx hb dX8_cell_144 rfl (lv_at hl 1 rfl) ?_
                refine lv_bipush (v := 28) hx hb dX8_cell_145 (by decide) ?_
                refine lv_aload_n hx hb dX8_cell_147 rfl (lv_at hl 1 rfl) ?_
                refine va_get (D := D) (ci := 8) (v := .int o_L.1) (C := RX8) (T := TX8) (N := 48) hx hb hts layX8 hown hK hP 0 rfl rfl 6 (by decide) (hts _ (inA q984)) (fun _ h9 => h9) rfl dX8_cell_148 ?_
                refine lv_iconst (v := 0) hx hb dX8_cell_151 (by decide) ?_
                obtain ⟨r15, hcr15, hM⟩ := ob_use hM
                refine cl_V (As := [.int 28, .int o_L.1, .int 0]) (rest := []) (wM0 ad o_X o_L o_N r15 o_U o_O o_E o_Q o_V o_I ++ wMC cI ad o_C ++ wMX cI ad o_X ++ wMN cI ad o_N ++ wMT cI ad r15 ++ wMU cI ad o_U) [] ⟨hx, hb, hml, hown, hts⟩ (c_Model_down l D cI sd ad o_C o_X o_L o_N o_U o_O o_E o_Q o_V o_I o_T 28 o_L.1 0 r15 hcr15) (cwV2 hts q1245 mvX8_down rfl rfl ⟨(Nat.le_of_ble_eq_true rfl), (Nat.le_of_ble_eq_true rfl)⟩) hK hE hA hP hD hS 0 (T := TX8) (N := 48) (ci := 8) rfl rfl [0, 8, 9, 10, 11, 12, 13, 14] rfl (by decide) rfl rfl rfl rfl rfl rfl hl.1 (Nat.le_of_ble_eq_true rfl) dX8_cell_152 ⟨Nat.zero_le _, Nat.zero_le _⟩ (fun H locs hP hD hS => ?_)
                refine lv_aload_n hx hb dX8_cell_155 rfl (lv_at hl 1 rfl) ?_
                refine lv_bipush (v := 101) hx hb dX8_cell_156 (by decide) ?_
                refine lv_bipush (v := 56) hx hb dX8_cell_158 (by decide) ?_
                refine lv_sipush (v := 158) hx hb dX8_cell_160 (by decide) ?_
                refine lv_sipush (v := 157) hx hb dX8_cell_163 (by decide) ?_
                obtain ⟨r16, hcr16, hM⟩ := ob_use hM
                refine cl_V (As := [.int 101, .int 56, .int 158, .int 157]) (rest := []) (wM0 ad o_X o_L o_N r15 r16 o_O o_E o_Q o_V o_I ++ wMC cI ad o_C ++ wMX cI ad o_X ++ wMN cI ad o_N ++ wMT cI ad r15 ++ wMU cI ad r16) [] ⟨hx, hb, hml, hown, hts⟩ (c_Model_push4 l D cI sd ad o_C o_X o_L o_N r15 o_O o_E o_Q o_V o_I o_U 101 56 158 157 r16 hcr16) (cwV2 hts q1253 mvX8_push4 rfl rfl ⟨(Nat.le_of_ble_eq_true rfl), (Nat.le_of_ble_eq_true rfl)⟩) hK hE hA hP hD hS 0 (T := TX8) (N := 48) (ci := 8) rfl rfl [0, 15] rfl (by decide) rfl rfl rfl rfl rfl rfl hl.1 (Nat.le_of_ble_eq_true rfl) dX8_cell_166 ⟨Nat.zero_le _, Nat.zero_le _⟩ (fun H locs hP hD hS => ?_)
                refine lv_aload_n hx hb dX8_cell_169 rfl (lv_at hl 1 rfl) ?_
                obtain ⟨r17, hcr17, hM⟩ := ob_use hM
                refine cl_V (As := []) (rest := []) (wM0 ad o_X r17.1 r17.2 r15 r16 o_O o_E o_Q o_V o_I ++ wMC cI ad o_C ++ wMX cI ad o_X ++ wMN cI ad r17.2 ++ wMT cI ad r15 ++ wMU cI ad r16) [] ⟨hx, hb, hml, hown, hts⟩ (c_Model_step l D cI sd ad r15 r16 o_O o_E o_Q o_V o_I o_C o_X o_L o_N r17 hcr17) (cwV2 hts q1151 mvX8_step rfl rfl ⟨(Nat.le_of_ble_eq_true rfl), (Nat.le_of_ble_eq_true rfl)⟩) hK hE hA hP hD hS 0 (T := TX8) (N := 48) (ci := 8) rfl rfl [0, 1, 2, 3, 4, 5, 6, 7] rfl (by decide) rfl rfl rfl rfl rfl rfl hl.1 (Nat.le_of_ble_eq_true rfl) dX8_cell_170 ⟨Nat.zero_le _, Nat.zero_le _⟩ (fun H locs hP hD hS => ?_)
                refine lv_goto (tgt := 180) hx hb dX8_cell_173 (by decide) ?_
                cases hM
                exact rt_v hx hb hr hlk hP hD hS rfl dX8_cell_180
            · replace hM := if_t c12 hM
              refine lv_aload_n hx hb dX8_cell_103 rfl (lv_at hl 1 rfl) ?_
              refine lv_aload_n hx hb dX8_cell_104 rfl (lv_at hl 1 rfl) ?_
              refine va_get (D := D) (ci := 8) (v := .int o_L.2.1) (C := RX8) (T := TX8) (N := 48) hx hb hts layX8 hown hK hP 0 rfl rfl 7 (by decide) (hts _ (inA q985)) (fun _ h9 => h9) rfl dX8_cell_105 ?_
              refine lv_bipush (v := 64) hx hb dX8_cell_108 (by decide) ?_
              refine lv_icmp_ne (tgt := 118) hx hb dX8_cell_110 (by decide) (fun c18 => ?_) (fun c18 => ?_)
              · replace hM := if_f c18 hM
                refine lv_bipush (v := 27) hx hb dX8_cell_118 (by decide) ?_
                refine lv_aload_n hx hb dX8_cell_120 rfl (lv_at hl 1 rfl) ?_
                refine va_get (D := D) (ci := 8) (v := .int o_L.1) (C := RX8) (T := TX8) (N := 48) hx hb hts layX8 hown hK hP 0 rfl rfl 6 (by decide) (hts _ (inA q984)) (fun _ h9 => h9) rfl dX8_cell_121 ?_
                refine lv_iconst (v := 0) hx hb dX8_cell_124 (by decide) ?_
                obtain ⟨r19, hcr19, hM⟩ := ob_use hM
                refine cl_V (As := [.int 27, .int o_L.1, .int 0]) (rest := []) (wM0 ad o_X o_L o_N r19 o_U o_O o_E o_Q o_V o_I ++ wMC cI ad o_C ++ wMX cI ad o_X ++ wMN cI ad o_N ++ wMT cI ad r19 ++ wMU cI ad o_U) [] ⟨hx, hb, hml, hown, hts⟩ (c_Model_leaf l D cI sd ad o_C o_X o_L o_N o_U o_O o_E o_Q o_V o_I o_T 27 o_L.1 0 r19 hcr19) (cwV2 hts q1277 mvX8_leaf rfl rfl ⟨(Nat.le_of_ble_eq_true rfl), (Nat.le_of_ble_eq_true rfl)⟩) hK hE hA hP hD hS 0 (T := TX8) (N := 48) (ci := 8) rfl rfl [0, 8, 9, 10, 11, 12, 13, 14] rfl (by decide) rfl rfl rfl rfl rfl rfl hl.1 (Nat.le_of_ble_eq_true rfl) dX8_cell_125 ⟨Nat.zero_le _, Nat.zero_le _⟩ (fun H locs hP hD hS => ?_)
                refine lv_aload_n hx hb dX8_cell_128 rfl (lv_at hl 1 rfl) ?_
                obtain ⟨r20, hcr20, hM⟩ := ob_use hM
                refine cl_V (As := []) (rest := []) (wM0 ad o_X r20.1 r20.2 r19 o_U o_O o_E o_Q o_V o_I ++ wMC cI ad o_C ++ wMX cI ad o_X ++ wMN cI ad r20.2 ++ wMT cI ad r19 ++ wMU cI ad o_U) [] ⟨hx, hb, hml, hown, hts⟩ (c_Model_step l D cI sd ad r19 o_U o_O o_E o_Q o_V o_I o_C o_X o_L o_N r20 hcr20) (cwV2 hts q1151 mvX8_step rfl rfl ⟨(Nat.le_of_ble_eq_true rfl), (Nat.le_of_ble_eq_true rfl)⟩) hK hE hA hP hD hS 0 (T := TX8) (N := 48) (ci := 8) rfl rfl [0, 1, 2, 3, 4, 5, 6, 7] rfl (by decide) rfl rfl rfl rfl rfl rfl hl.1 (Nat.le_of_ble_eq_true rfl) dX8_cell_129 ⟨Nat.zero_le _, Nat.zero_le _⟩ (fun H locs hP hD hS => ?_)
                refine lv_goto (tgt := 180) hx hb dX8_cell_132 (by decide) ?_
                cases hM
                exact rt_v hx hb hr hlk hP hD hS rfl dX8_cell_180
              · replace hM := if_t c18 hM
                refine lv_bipush (v := 26) hx hb dX8_cell_113 (by decide) ?_
                refine lv_goto (tgt := 120) hx hb dX8_cell_115 (by decide) ?_
                refine lv_aload_n hx hb dX8_cell_120 rfl (lv_at hl 1 rfl) ?_
                refine va_get (D := D) (ci := 8) (v := .int o_L.1) (C := RX8) (T := TX8) (N := 48) hx hb hts layX8 hown hK hP 0 rfl rfl 6 (by decide) (hts _ (inA q984)) (fun _ h9 => h9) rfl dX8_cell_121 ?_
                refine lv_iconst (v := 0) hx hb dX8_cell_124 (by decide) ?_
                obtain ⟨r21, hcr21, hM⟩ := ob_use hM
                refine cl_V (As := [.int 26, .int o_L.1, .int 0]) (rest := []) (wM0 ad o_X o_L o_N r21 o_U o_O o_E o_Q o_V o_I ++ wMC cI ad o_C ++ wMX cI ad o_X ++ wMN cI ad o_N ++ wMT cI ad r21 ++ wMU cI ad o_U) [] ⟨hx, hb, hml, hown, hts⟩ (c_Model_leaf l D cI sd ad o_C o_X o_L o_N o_U o_O o_E o_Q o_V o_I o_T 26 o_L.1 0 r21 hcr21) (cwV2 hts q1277 mvX8_leaf rfl rfl ⟨(Nat.le_of_ble_eq_true rfl), (Nat.le_of_ble_eq_true rfl)⟩) hK hE hA hP hD hS 0 (T := TX8) (N := 48) (ci := 8) rfl rfl [0, 8, 9, 10, 11, 12, 13, 14] rfl (by decide) rfl rfl rfl rfl rfl rfl hl.1 (Nat.le_of_ble_eq_true rfl) dX8_cell_125 ⟨Nat.zero_le _, Nat.zero_le _⟩ (fun H locs hP hD hS => ?_)
                refine lv_aload_n hx hb dX8_cell_128 rfl (lv_at hl 1 rfl) ?_
                obtain ⟨r22, hcr22, hM⟩ := ob_use hM
                refine cl_V (As := []) (rest := []) (wM0 ad o_X r22.1 r22.2 r21 o_U o_O o_E o_Q o_V o_I ++ wMC cI ad o_C ++ wMX cI ad o_X ++ wMN cI ad r22.2 ++ wMT cI ad r21 ++ wMU cI ad o_U) [] ⟨hx, hb, hml, hown, hts⟩ (c_Model_step l D cI sd ad r21 o_U o_O o_E o_Q o_V o_I o_C o_X o_L o_N r22 hcr22) (cwV2 hts q1151 mvX8_step rfl rfl ⟨(Nat.le_of_ble_eq_true rfl), (Nat.le_of_ble_eq_true rfl)⟩) hK hE hA hP hD hS 0 (T := TX8) (N := 48) (ci := 8) rfl rfl [0, 1, 2, 3, 4, 5, 6, 7] rfl (by decide) rfl rfl rfl rfl rfl rfl hl.1 (Nat.le_of_ble_eq_true rfl) dX8_cell_129 ⟨Nat.zero_le _, Nat.zero_le _⟩ (fun H locs hP hD hS => ?_)
                refine lv_goto (tgt := 180) hx hb dX8_cell_132 (by decide) ?_
                cases hM
                exact rt_v hx hb hr hlk hP hD hS rfl dX8_cell_180
        · replace hM := if_t c5 hM
          refine lv_aload_n hx hb dX8_cell_54 rfl (lv_at hl 1 rfl) ?_
          refine lv_bipush (v := 25) hx hb dX8_cell_55 (by decide) ?_
          refine lv_aload_n hx hb dX8_cell_57 rfl (lv_at hl 1 rfl) ?_
          refine va_get (D := D) (ci := 8) (v := .int o_L.1) (C := RX8) (T := TX8) (N := 48) hx hb hts layX8 hown hK hP 0 rfl rfl 6 (by decide) (hts _ (inA q984)) (fun _ h9 => h9) rfl dX8_cell_58 ?_
          refine lv_iload_n hx hb dX8_cell_61 rfl (lv_at hl 0 rfl) ?_
          obtain ⟨r23, hcr23, hM⟩ := ob_use hM
          refine cl_V (As := [.int 25, .int o_L.1, .int 0]) (rest := []) (wM0 ad o_X o_L o_N r23 o_U o_O o_E o_Q o_V o_I ++ wMC cI ad o_C ++ wMX cI ad o_X ++ wMN cI ad o_N ++ wMT cI ad r23 ++ wMU cI ad o_U) [] ⟨hx, hb, hml, hown, hts⟩ (c_Model_down l D cI sd ad o_C o_X o_L o_N o_U o_O o_E o_Q o_V o_I o_T 25 o_L.1 0 r23 hcr23) (cwV2 hts q1245 mvX8_down rfl rfl ⟨(Nat.le_of_ble_eq_true rfl), (Nat.le_of_ble_eq_true rfl)⟩) hK hE hA hP hD hS 0 (T := TX8) (N := 48) (ci := 8) rfl rfl [0, 8, 9, 10, 11, 12, 13, 14] rfl (by decide) rfl rfl rfl rfl rfl rfl hl.1 (Nat.le_of_ble_eq_true rfl) dX8_cell_62 ⟨Nat.zero_le _, Nat.zero_le _⟩ (fun H locs hP hD hS => ?_)
          refine lv_aload_n hx hb dX8_cell_65 rfl (lv_at hl 1 rfl) ?_
          refine lv_bipush (v := 101) hx hb dX8_cell_66 (by decide) ?_
          refine lv_sipush (v := 155) hx hb dX8_cell_68 (by decide) ?_
          obtain ⟨r24, hcr24, hM⟩ := ob_use hM
          refine cl_V (As := [.int 101, .int 155]) (rest := []) (wM0 ad o_X o_L o_N r23 r24 o_O o_E o_Q o_V o_I ++ wMC cI ad o_C ++ wMX cI ad o_X ++ wMN cI ad o_N ++ wMT cI ad r23 ++ wMU cI ad r24) [] ⟨hx, hb, hml, hown, hts⟩ (c_Model_push2 l D cI sd ad o_C o_X o_L o_N r23 o_O o_E o_Q o_V o_I o_U 101 155 r24 hcr24) (cwV2 hts q1257 mvX8_push2 rfl rfl ⟨(Nat.le_of_ble_eq_true rfl), (Nat.le_of_ble_eq_true rfl)⟩) hK hE hA hP hD hS 0 (T := TX8) (N := 48) (ci := 8) rfl rfl [0, 15] rfl (by decide) rfl rfl rfl rfl rfl rfl hl.1 (Nat.le_of_ble_eq_true rfl) dX8_cell_71 ⟨Nat.zero_le _, Nat.zero_le _⟩ (fun H locs hP hD hS => ?_)
          refine lv_iload_n hx hb dX8_cell_74 rfl (lv_at hl 0 rfl) ?_
          refine lv_if_le (tgt := 180) hx hb dX8_cell_75 (by decide) (fun c25 => ?_) (fun c25 => False.elim (by revert c25; decide))
          cases hM
          exact rt_v hx hb hr hlk hP hD hS rfl dX8_cell_180
      · replace hM := if_t c3 hM
        refine lv_iconst (v := 3) hx hb dX8_cell_35 (by decide) ?_
        refine lv_goto (tgt := 40) hx hb dX8_cell_36 (by decide) ?_
        refine lv_istore_n (lv' := [(1, .int 3), (0, .ref (ad 100))]) hx hb dX8_cell_40 rfl hl (by decide) rfl (fun ls hl => ?_)
        refine lv_iload_n hx hb dX8_cell_41 rfl (lv_at hl 0 rfl) ?_
        refine lv_if_gt (tgt := 54) hx hb dX8_cell_42 (by decide) (fun c26 => ?_) (fun c26 => False.elim (by revert c26; decide))
        refine lv_aload_n hx hb dX8_cell_54 rfl (lv_at hl 1 rfl) ?_
        refine lv_bipush (v := 25) hx hb dX8_cell_55 (by decide) ?_
        refine lv_aload_n hx hb dX8_cell_57 rfl (lv_at hl 1 rfl) ?_
        refine va_get (D := D) (ci := 8) (v := .int o_L.1) (C := RX8) (T := TX8) (N := 48) hx hb hts layX8 hown hK hP 0 rfl rfl 6 (by decide) (hts _ (inA q984)) (fun _ h9 => h9) rfl dX8_cell_58 ?_
        refine lv_iload_n hx hb dX8_cell_61 rfl (lv_at hl 0 rfl) ?_
        obtain ⟨r27, hcr27, hM⟩ := ob_use hM
        refine cl_V (As := [.int 25, .int o_L.1, .int 3]) (rest := []) (wM0 ad o_X o_L o_N r27 o_U o_O o_E o_Q o_V o_I ++ wMC cI ad o_C ++ wMX cI ad o_X ++ wMN cI ad o_N ++ wMT cI ad r27 ++ wMU cI ad o_U) [] ⟨hx, hb, hml, hown, hts⟩ (c_Model_down l D cI sd ad o_C o_X o_L o_N o_U o_O o_E o_Q o_V o_I o_T 25 o_L.1 3 r27 hcr27) (cwV2 hts q1245 mvX8_down rfl rfl ⟨(Nat.le_of_ble_eq_true rfl), (Nat.le_of_ble_eq_true rfl)⟩) hK hE hA hP hD hS 0 (T := TX8) (N := 48) (ci := 8) rfl rfl [0, 8, 9, 10, 11, 12, 13, 14] rfl (by decide) rfl rfl rfl rfl rfl rfl hl.1 (Nat.le_of_ble_eq_true rfl) dX8_cell_62 ⟨Nat.zero_le _, Nat.zero_le _⟩ (fun H locs hP hD hS => ?_)
        refine lv_aload_n hx hb dX8_cell_65 rfl (lv_at hl 1 rfl) ?_
        refine lv_bipush (v := 101) hx hb dX8_cell_66 (by decide) ?_
        refine lv_sipush (v := 155) hx hb dX8_cell_68 (by decide) ?_
        obtain ⟨r28, hcr28, hM⟩ := ob_use hM
        refine cl_V (As := [.int 101, .int 155]) (rest := []) (wM0 ad o_X o_L o_N r27 r28 o_O o_E o_Q o_V o_I ++ wMC cI ad o_C ++ wMX cI ad o_X ++ wMN cI ad o_N ++ wMT cI ad r27 ++ wMU cI ad r28) [] ⟨hx, hb, hml, hown, hts⟩ (c_Model_push2 l D cI sd ad o_C o_X o_L o_N r27 o_O o_E o_Q o_V o_I o_U 101 155 r28 hcr28) (cwV2 hts q1257 mvX8_push2 rfl rfl ⟨(Nat.le_of_ble_eq_true rfl), (Nat.le_of_ble_eq_true rfl)⟩) hK hE hA hP hD hS 0 (T := TX8) (N := 48) (ci := 8) rfl rfl [0, 15] rfl (by decide) rfl rfl rfl rfl rfl rfl hl.1 (Nat.le_of_ble_eq_true rfl) dX8_cell_71 ⟨Nat.zero_le _, Nat.zero_le _⟩ (fun H locs hP hD hS => ?_)
        refine lv_iload_n hx hb dX8_cell_74 rfl (lv_at hl 0 rfl) ?_
        refine lv_if_le (tgt := 180) hx hb dX8_cell_75 (by decide) (fun c29 => False.elim (by revert c29; decide)) (fun c29 => ?_)
        refine lv_aload_n hx hb dX8_cell_78 rfl (lv_at hl 1 rfl) ?_
        obtain ⟨r30, hcr30, hM⟩ := ob_use hM
        refine cl_V (As := []) (rest := []) (wM0 ad o_X r30.1 r30.2 r27 r28 o_O o_E o_Q o_V o_I ++ wMC cI ad o_C ++ wMX cI ad o_X ++ wMN cI ad r30.2 ++ wMT cI ad r27 ++ wMU cI ad r28) [] ⟨hx, hb, hml, hown, hts⟩ (c_Model_step l D cI sd ad r27 r28 o_O o_E o_Q o_V o_I o_C o_X o_L o_N r30 hcr30) (cwV2 hts q1151 mvX8_step rfl rfl ⟨(Nat.le_of_ble_eq_true rfl), (Nat.le_of_ble_eq_true rfl)⟩) hK hE hA hP hD hS 0 (T := TX8) (N := 48) (ci := 8) rfl rfl [0, 1, 2, 3, 4, 5, 6, 7] rfl (by decide) rfl rfl rfl rfl rfl rfl hl.1 (Nat.le_of_ble_eq_true rfl) dX8_cell_79 ⟨Nat.zero_le _, Nat.zero_le _⟩ (fun H locs hP hD hS => ?_)
        refine lv_goto (tgt := 180) hx hb dX8_cell_82 (by decide) ?_
        cases hM
        exact rt_v hx hb hr hlk hP hD hS rfl dX8_cell_180
    · replace hM := if_t c2 hM
      refine lv_iconst (v := 2) hx hb dX8_cell_22 (by decide) ?_
      refine lv_goto (tgt := 40) hx hb dX8_cell_23 (by decide) ?_
      refine lv_istore_n (lv' := [(1, .int 2), (0, .ref (ad 100))]) hx hb dX8_cell_40 rfl hl (by decide) rfl (fun ls hl => ?_)
      refine lv_iload_n hx hb dX8_cell_41 rfl (lv_at hl 0 rfl) ?_
      refine lv_if_gt (tgt := 54) hx hb dX8_cell_42 (by decide) (fun c31 => ?_) (fun c31 => False.elim (by revert c31; decide))
      refine lv_aload_n hx hb dX8_cell_54 rfl (lv_at hl 1 rfl) ?_
      refine lv_bipush (v := 25) hx hb dX8_cell_55 (by decide) ?_
      refine lv_aload_n hx hb dX8_cell_57 rfl (lv_at hl 1 rfl) ?_
      refine va_get (D := D) (ci := 8) (v := .int o_L.1) (C := RX8) (T := TX8) (N := 48) hx hb hts layX8 hown hK hP 0 rfl rfl 6 (by decide) (hts _ (inA q984)) (fun _ h9 => h9) rfl dX8_cell_58 ?_
      refine lv_iload_n hx hb dX8_cell_61 rfl (lv_at hl 0 rfl) ?_
      obtain ⟨r32, hcr32, hM⟩ := ob_use hM
      refine cl_V (As := [.int 25, .int o_L.1, .int 2]) (rest := []) (wM0 ad o_X o_L o_N r32 o_U o_O o_E o_Q o_V o_I ++ wMC cI ad o_C ++ wMX cI ad o_X ++ wMN cI ad o_N ++ wMT cI ad r32 ++ wMU cI ad o_U) [] ⟨hx, hb, hml, hown, hts⟩ (c_Model_down l D cI sd ad o_C o_X o_L o_N o_U o_O o_E o_Q o_V o_I o_T 25 o_L.1 2 r32 hcr32) (cwV2 hts q1245 mvX8_down rfl rfl ⟨(Nat.le_of_ble_eq_true rfl), (Nat.le_of_ble_eq_true rfl)⟩) hK hE hA hP hD hS 0 (T := TX8) (N := 48) (ci := 8) rfl rfl [0, 8, 9, 10, 11, 12, 13, 14] rfl (by decide) rfl rfl rfl rfl rfl rfl hl.1 (Nat.le_of_ble_eq_true rfl) dX8_cell_62 ⟨Nat.zero_le _, Nat.zero_le _⟩ (fun H locs hP hD hS => ?_)
      refine lv_aload_n hx hb dX8_cell_65 rfl (lv_at hl 1 rfl) ?_
      refine lv_bipush (v := 101) hx hb dX8_cell_66 (by decide) ?_
      refine lv_sipush (v := 155) hx hb dX8_cell_68 (by decide) ?_
      obtain ⟨r33, hcr33, hM⟩ := ob_use hM
      refine cl_V (As := [.int 101, .int 155]) (rest := []) (wM0 ad o_X o_L o_N r32 r33 o_O o_E o_Q o_V o_I ++ wMC cI ad o_C ++ wMX cI ad o_X ++ wMN cI ad o_N ++ wMT cI ad r32 ++ wMU cI ad r33) [] ⟨hx, hb, hml, hown, hts⟩ (c_Model_push2 l D cI sd ad o_C o_X o_L o_N r32 o_O o_E o_Q o_V o_I o_U 101 155 r33 hcr33) (cwV2 hts q1257 mvX8_push2 rfl rfl ⟨(Nat.le_of_ble_eq_true rfl), (Nat.le_of_ble_eq_true rfl)⟩) hK hE hA hP hD hS 0 (T := TX8) (N := 48) (ci := 8) rfl rfl [0, 15] rfl (by decide) rfl rfl rfl rfl rfl rfl hl.1 (Nat.le_of_ble_eq_true rfl) dX8_cell_71 ⟨Nat.zero_le _, Nat.zero_le _⟩ (fun H locs hP hD hS => ?_)
      refine lv_iload_n hx hb dX8_cell_74 rfl (lv_at hl 0 rfl) ?_
      refine lv_if_le (tgt := 180) hx hb dX8_cell_75 (by decide) (fun c34 => False.elim (by revert c34; decide)) (fun c34 => ?_)
      refine lv_aload_n hx hb dX8_cell_78 rfl (lv_at hl 1 rfl) ?_
      obtain ⟨r35, hcr35, hM⟩ := ob_use hM
      refine cl_V (As := []) (rest := []) (wM0 ad o_X r35.1 r35.2 r32 r33 o_O o_E o_Q o_V o_I ++ wMC cI ad o_C ++ wMX cI ad o_X ++ wMN cI ad r35.2 ++ wMT cI ad r32 ++ wMU cI ad r33) [] ⟨hx, hb, hml, hown, hts⟩ (c_Model_step l D cI sd ad r32 r33 o_O o_E o_Q o_V o_I o_C o_X o_L o_N r35 hcr35) (cwV2 hts q1151 mvX8_step rfl rfl ⟨(Nat.le_of_ble_eq_true rfl), (Nat.le_of_ble_eq_true rfl)⟩) hK hE hA hP hD hS 0 (T := TX8) (N := 48) (ci := 8) rfl rfl [0, 1, 2, 3, 4, 5, 6, 7] rfl (by decide) rfl rfl rfl rfl rfl rfl hl.1 (Nat.le_of_ble_eq_true rfl) dX8_cell_79 ⟨Nat.zero_le _, Nat.zero_le _⟩ (fun H locs hP hD hS => ?_)
      refine lv_goto (tgt := 180) hx hb dX8_cell_82 (by decide) ?_
      cases hM
      exact rt_v hx hb hr hlk hP hD hS rfl dX8_cell_180
  · replace hM := if_t c1 hM
    refine lv_iconst (v := 1) hx hb dX8_cell_9 (by decide) ?_
    refine lv_goto (tgt := 40) hx hb dX8_cell_10 (by decide) ?_
    refine lv_istore_n (lv' := [(1, .int 1), (0, .ref (ad 100))]) hx hb dX8_cell_40 rfl hl (by decide) rfl (fun ls hl => ?_)
    refine lv_iload_n hx hb dX8_cell_41 rfl (lv_at hl 0 rfl) ?_
    refine lv_if_gt (tgt := 54) hx hb dX8_cell_42 (by decide) (fun c36 => ?_) (fun c36 => False.elim (by revert c36; decide))
    refine lv_aload_n hx hb dX8_cell_54 rfl (lv_at hl 1 rfl) ?_
    refine lv_bipush (v := 25) hx hb dX8_cell_55 (by decide) ?_
    refine lv_aload_n hx hb dX8_cell_57 rfl (lv_at hl 1 rfl) ?_
    refine va_get (D := D) (ci := 8) (v := .int o_L.1) (C := RX8) (T := TX8) (N := 48) hx hb hts layX8 hown hK hP 0 rfl rfl 6 (by decide) (hts _ (inA q984)) (fun _ h9 => h9) rfl dX8_cell_58 ?_
    refine lv_iload_n hx hb dX8_cell_61 rfl (lv_at hl 0 rfl) ?_
    obtain ⟨r37, hcr37, hM⟩ := ob_use hM
    refine cl_V (As := [.int 25, .int o_L.1, .int 1]) (rest := []) (wM0 ad o_X o_L o_N r37 o_U o_O o_E o_Q o_V o_I ++ wMC cI ad o_C ++ wMX cI ad o_X ++ wMN cI ad o_N ++ wMT cI ad r37 ++ wMU cI ad o_U) [] ⟨hx, hb, hml, hown, hts⟩ (c_Model_down l D cI sd ad o_C o_X o_L o_N o_U o_O o_E o_Q o_V o_I o_T 25 o_L.1 1 r37 hcr37) (cwV2 hts q1245 mvX8_down rfl rfl ⟨(Nat.le_of_ble_eq_true rfl), (Nat.le_of_ble_eq_true rfl)⟩) hK hE hA hP hD hS 0 (T := TX8) (N := 48) (ci := 8) rfl rfl [0, 8, 9, 10, 11, 12, 13, 14] rfl (by decide) rfl rfl rfl rfl rfl rfl hl.1 (Nat.le_of_ble_eq_true rfl) dX8_cell_62 ⟨Nat.zero_le _, Nat.zero_le _⟩ (fun H locs hP hD hS => ?_)
    refine lv_aload_n hx hb dX8_cell_65 rfl (lv_at hl 1 rfl) ?_
    refine lv_bipush (v := 101) hx hb dX8_cell_66 (by decide) ?_
    refine lv_sipush (v := 155) hx hb dX8_cell_68 (by decide) ?_
    obtain ⟨r38, hcr38, hM⟩ := ob_use hM
    refine cl_V (As := [.int 101, .int 155]) (rest := []) (wM0 ad o_X o_L o_N r37 r38 o_O o_E o_Q o_V o_I ++ wMC cI ad o_C ++ wMX cI ad o_X ++ wMN cI ad o_N ++ wMT cI ad r37 ++ wMU cI ad r38) [] ⟨hx, hb, hml, hown, hts⟩ (c_Model_push2 l D cI sd ad o_C o_X o_L o_N r37 o_O o_E o_Q o_V o_I o_U 101 155 r38 hcr38) (cwV2 hts q1257 mvX8_push2 rfl rfl ⟨(Nat.le_of_ble_eq_true rfl), (Nat.le_of_ble_eq_true rfl)⟩) hK hE hA hP hD hS 0 (T := TX8) (N := 48) (ci := 8) rfl rfl [0, 15] rfl (by decide) rfl rfl rfl rfl rfl rfl hl.1 (Nat.le_of_ble_eq_true rfl) dX8_cell_71 ⟨Nat.zero_le _, Nat.zero_le _⟩ (fun H locs hP hD hS => ?_)
    refine lv_iload_n hx hb dX8_cell_74 rfl (lv_at hl 0 rfl) ?_
    refine lv_if_le (tgt := 180) hx hb dX8_cell_75 (by decide) (fun c39 => False.elim (by revert c39; decide)) (fun c39 => ?_)
    refine lv_aload_n hx hb dX8_cell_78 rfl (lv_at hl 1 rfl) ?_
    obtain ⟨r40, hcr40, hM⟩ := ob_use hM
    refine cl_V (As := []) (rest := []) (wM0 ad o_X r40.1 r40.2 r37 r38 o_O o_E o_Q o_V o_I ++ wMC cI ad o_C ++ wMX cI ad o_X ++ wMN cI ad r40.2 ++ wMT cI ad r37 ++ wMU cI ad r38) [] ⟨hx, hb, hml, hown, hts⟩ (c_Model_step l D cI sd ad r37 r38 o_O o_E o_Q o_V o_I o_C o_X o_L o_N r40 hcr40) (cwV2 hts q1151 mvX8_step rfl rfl ⟨(Nat.le_of_ble_eq_true rfl), (Nat.le_of_ble_eq_true rfl)⟩) hK hE hA hP hD hS 0 (T := TX8) (N := 48) (ci := 8) rfl rfl [0, 1, 2, 3, 4, 5, 6, 7] rfl (by decide) rfl rfl rfl rfl rfl rfl hl.1 (Nat.le_of_ble_eq_true rfl) dX8_cell_79 ⟨Nat.zero_le _, Nat.zero_le _⟩ (fun H locs hP hD hS => ?_)
    refine lv_goto (tgt := 180) hx hb dX8_cell_82 (by decide) ?_
    cases hM
    exact rt_v hx hb hr hlk hP hD hS rfl dX8_cell_180

set_option maxHeartbeats 4000000 in
set_option maxRecDepth 100000 in
theorem c_Model_contact (l : Launch) (D : va_G) (cI : ClassId) (sd : Nat → Nat) (ad : Nat → Nat) (o_T : S_MT) (o_E : S_ME) (o_Q : S_MQ) (o_V : S_MV) (o_I : S_MI) (o_C : S_MC) (o_X : S_MX) (o_L : S_ML) (o_N : S_MN) (o_U : S_MU) (o_O : S_MO) (res : S_ML × S_MN × S_MU × S_MO) (hM : f_Model_contact o_C o_X o_L o_N o_U o_O = some res) : Ctr l D cI sd yX8_contact (wsM yX8_contact cX8_contact 1 (Option.none : Option Jvm.ClassFile.FieldType)) { frames := 6, cells := 0, slots := 0, locals := 133 } [.ref (ad 100)] (wM0 ad o_X o_L o_N o_T o_U o_O o_E o_Q o_V o_I ++ wMC cI ad o_C ++ wMX cI ad o_X ++ wMN cI ad o_N ++ wMU cI ad o_U) (wM0 ad o_X res.1 res.2.1 o_T res.2.2.1 res.2.2.2 o_E o_Q o_V o_I ++ wMC cI ad o_C ++ wMX cI ad o_X ++ wMN cI ad res.2.1 ++ wMU cI ad res.2.2.1) none := by
  refine Ctr.of (cc := cX8_contact) (maxL := 1) (own := RX8) (by decide +kernel) rfl rfl (Nat.le_of_ble_eq_true rfl) ?_
  intro p e s m below meth c A ls hx hb hr hml hown hts hlk hK hE hA hP hD hS hl
  have hl : lv_has ls 1 [(0, .ref (ad 100))] := hl
  unfold f_Model_contact at hM
  refine lv_aload_n hx hb dX8_contact_0 rfl (lv_at hl 0 rfl) ?_
  obtain ⟨r1, hcr1, hM⟩ := ob_use hM
  refine cl_V (As := []) (rest := []) (wM0 ad o_X o_L o_N o_T o_U r1 o_E o_Q o_V o_I ++ wMC cI ad o_C ++ wMX cI ad o_X ++ wMN cI ad o_N ++ wMU cI ad o_U) [] ⟨hx, hb, hml, hown, hts⟩ (c_Model_keepName l D cI sd ad o_C o_X o_N o_T o_U o_E o_Q o_V o_I o_L o_O r1 hcr1) (cwV2 hts q1317 mvX8_keepName rfl rfl ⟨(Nat.le_of_ble_eq_true rfl), (Nat.le_of_ble_eq_true rfl)⟩) hK hE hA hP hD hS 0 (T := TX8) (N := 48) (ci := 8) rfl rfl [0] rfl (by decide) rfl rfl rfl rfl rfl rfl hl.1 (Nat.le_of_ble_eq_true rfl) dX8_contact_1 ⟨Nat.zero_le _, Nat.zero_le _⟩ (fun H locs hP hD hS => ?_)
  refine lv_aload_n hx hb dX8_contact_4 rfl (lv_at hl 0 rfl) ?_
  refine lv_sipush (v := 156) hx hb dX8_contact_5 (by decide) ?_
  obtain ⟨r2, hcr2, hM⟩ := ob_use hM
  refine cl_V (As := [.int 156]) (rest := []) (wM0 ad o_X o_L o_N o_T r2 r1 o_E o_Q o_V o_I ++ wMC cI ad o_C ++ wMX cI ad o_X ++ wMN cI ad o_N ++ wMU cI ad r2) [] ⟨hx, hb, hml, hown, hts⟩ (c_Model_push l D cI sd ad o_C o_X o_L o_N o_T r1 o_E o_Q o_V o_I o_U 156 r2 hcr2) (cwV2 hts q1147 mvX8_push rfl rfl ⟨(Nat.le_of_ble_eq_true rfl), (Nat.le_of_ble_eq_true rfl)⟩) hK hE hA hP hD hS 0 (T := TX8) (N := 48) (ci := 8) rfl rfl [0, 8] rfl (by decide) rfl rfl rfl rfl rfl rfl hl.1 (Nat.le_of_ble_eq_true rfl) dX8_contact_8 ⟨Nat.zero_le _, Nat.zero_le _⟩ (fun H locs hP hD hS => ?_)
  refine lv_aload_n hx hb dX8_contact_11 rfl (lv_at hl 0 rfl) ?_
  refine lv_bipush (v := 80) hx hb dX8_contact_12 (by decide) ?_
  obtain ⟨r3, hcr3, hM⟩ := ob_use hM
  refine cl_V (As := [.int 80]) (rest := []) (wM0 ad o_X r3.1 r3.2 o_T r2 r1 o_E o_Q o_V o_I ++ wMC cI ad o_C ++ wMX cI ad o_X ++ wMN cI ad r3.2 ++ wMU cI ad r2) [] ⟨hx, hb, hml, hown, hts⟩ (c_Model_pass l D cI sd ad o_T r2 r1 o_E o_Q o_V o_I o_C o_X o_L o_N 80 r3 hcr3) (cwV2 hts q1229 mvX8_pass rfl rfl ⟨(Nat.le_of_ble_eq_true rfl), (Nat.le_of_ble_eq_true rfl)⟩) hK hE hA hP hD hS 0 (T := TX8) (N := 48) (ci := 8) rfl rfl [0, 1, 2, 3, 4, 5, 6, 7] rfl (by decide) rfl rfl rfl rfl rfl rfl hl.1 (Nat.le_of_ble_eq_true rfl) dX8_contact_14 ⟨Nat.zero_le _, Nat.zero_le _⟩ (fun H locs hP hD hS => ?_)
  cases hM
  exact rt_v hx hb hr hlk hP hD hS rfl dX8_contact_17

set_option maxHeartbeats 4000000 in
set_option maxRecDepth 100000 in
theorem c_Model_behindContact (l : Launch) (D : va_G) (cI : ClassId) (sd : Nat → Nat) (ad : Nat → Nat) (o_E : S_ME) (o_Q : S_MQ) (o_V : S_MV) (o_I : S_MI) (o_C : S_MC) (o_X : S_MX) (o_L : S_ML) (o_N : S_MN) (o_T : S_MT) (o_U : S_MU) (o_O : S_MO) (res : S_ML × S_MN × S_MT × S_MU) (hM : f_Model_behindContact o_C o_X o_L o_N o_T o_U o_O = some res) : Ctr l D cI sd yX8_behindContact (wsM yX8_behindContact cX8_behindContact 1 (Option.none : Option Jvm.ClassFile.FieldType)) { frames := 5, cells := 0, slots := 0, locals := 112 } [.ref (ad 100)] (wM0 ad o_X o_L o_N o_T o_U o_O o_E o_Q o_V o_I ++ wMC cI ad o_C ++ wMX cI ad o_X ++ wMN cI ad o_N ++ wMT cI ad o_T ++ wMU cI ad o_U) (wM0 ad o_X res.1 res.2.1 res.2.2.1 res.2.2.2 o_O o_E o_Q o_V o_I ++ wMC cI ad o_C ++ wMX cI ad o_X ++ wMN cI ad res.2.1 ++ wMT cI ad res.2.2.1 ++ wMU cI ad res.2.2.2) none := by
  refine Ctr.of (cc := cX8_behindContact) (maxL := 1) (own := RX8) (by decide +kernel) rfl rfl (Nat.le_of_ble_eq_true rfl) ?_
  intro p e s m below meth c A ls hx hb hr hml hown hts hlk hK hE hA hP hD hS hl
  have hl : lv_has ls 1 [(0, .ref (ad 100))] := hl
  unfold f_Model_behindContact at hM
  refine lv_aload_n hx hb dX8_behindContact_0 rfl (lv_at hl 0 rfl) ?_
  refine va_get (D := D) (ci := 8) (v := .int o_L.2.1) (C := RX8) (T := TX8) (N := 48) hx hb hts layX8 hown hK hP 0 rfl rfl 7 (by decide) (hts _ (inA q985)) (fun _ h9 => h9) rfl dX8_behindContact_1 ?_
  refine lv_bipush (v := 62) hx hb dX8_behindContact_4 (by decide) ?_
  refine lv_icmp_ne (tgt := 39) hx hb dX8_behindContact_6 (by decide) (fun c1 => ?_) (fun c1 => ?_)
  · replace hM := if_f c1 hM
    refine lv_aload_n hx hb dX8_behindContact_39 rfl (lv_at hl 0 rfl) ?_
    refine lv_bipush (v := 6) hx hb dX8_behindContact_40 (by decide) ?_
    refine lv_aload_n hx hb dX8_behindContact_42 rfl (lv_at hl 0 rfl) ?_
    refine va_get (D := D) (ci := 8) (v := .int o_O.2.2.2.1) (C := RX8) (T := TX8) (N := 48) hx hb hts layX8 hown hK hP 0 rfl rfl 30 (by decide) (hts _ (inA q1008)) (fun _ h9 => h9) rfl dX8_behindContact_43 ?_
    refine lv_aload_n hx hb dX8_behindContact_46 rfl (lv_at hl 0 rfl) ?_
    refine va_get (D := D) (ci := 8) (v := .int o_O.2.2.2.2.1) (C := RX8) (T := TX8) (N := 48) hx hb hts layX8 hown hK hP 0 rfl rfl 31 (by decide) (hts _ (inA q1009)) (fun _ h9 => h9) rfl dX8_behindContact_47 ?_
    obtain ⟨r2, hcr2, hM⟩ := ob_use hM
    refine cl_V (As := [.int 6, .int o_O.2.2.2.1, .int o_O.2.2.2.2.1]) (rest := []) (wM0 ad o_X o_L o_N r2 o_U o_O o_E o_Q o_V o_I ++ wMC cI ad o_C ++ wMX cI ad o_X ++ wMN cI ad o_N ++ wMT cI ad r2 ++ wMU cI ad o_U) [] ⟨hx, hb, hml, hown, hts⟩ (c_Model_leaf l D cI sd ad o_C o_X o_L o_N o_U o_O o_E o_Q o_V o_I o_T 6 o_O.2.2.2.1 o_O.2.2.2.2.1 r2 hcr2) (cwV2 hts q1277 mvX8_leaf rfl rfl ⟨(Nat.le_of_ble_eq_true rfl), (Nat.le_of_ble_eq_true rfl)⟩) hK hE hA hP hD hS 0 (T := TX8) (N := 48) (ci := 8) rfl rfl [0, 8, 9, 10, 11, 12, 13, 14] rfl (by decide) rfl rfl rfl rfl rfl rfl hl.1 (Nat.le_of_ble_eq_true rfl) dX8_behindContact_50 ⟨Nat.zero_le _, Nat.zero_le _⟩ (fun H locs hP hD hS => ?_)
    cases hM
    exact rt_v hx hb hr hlk hP hD hS rfl dX8_behindContact_53
  · replace hM := if_t c1 hM
    refine lv_aload_n hx hb dX8_behindContact_9 rfl (lv_at hl 0 rfl) ?_
    refine lv_bipush (v := 33) hx hb dX8_behindContact_10 (by decide) ?_
    refine lv_aload_n hx hb dX8_behindContact_12 rfl (lv_at hl 0 rfl) ?_
    refine va_get (D := D) (ci := 8) (v := .int o_O.2.2.2.1) (C := RX8) (T := TX8) (N := 48) hx hb hts layX8 hown hK hP 0 rfl rfl 30 (by decide) (hts _ (inA q1008)) (fun _ h9 => h9) rfl dX8_behindContact_13 ?_
    refine lv_aload_n hx hb dX8_behindContact_16 rfl (lv_at hl 0 rfl) ?_
    refine va_get (D := D) (ci := 8) (v := .int o_O.2.2.2.2.1) (C := RX8) (T := TX8) (N := 48) hx hb hts layX8 hown hK hP 0 rfl rfl 31 (by decide) (hts _ (inA q1009)) (fun _ h9 => h9) rfl dX8_behindContact_17 ?_
    obtain ⟨r3, hcr3, hM⟩ := ob_use hM
    refine cl_V (As := [.int 33, .int o_O.2.2.2.1, .int o_O.2.2.2.2.1]) (rest := []) (wM0 ad o_X o_L o_N r3 o_U o_O o_E o_Q o_V o_I ++ wMC cI ad o_C ++ wMX cI ad o_X ++ wMN cI ad o_N ++ wMT cI ad r3 ++ wMU cI ad o_U) [] ⟨hx, hb, hml, hown, hts⟩ (c_Model_down l D cI sd ad o_C o_X o_L o_N o_U o_O o_E o_Q o_V o_I o_T 33 o_O.2.2.2.1 o_O.2.2.2.2.1 r3 hcr3) (cwV2 hts q1245 mvX8_down rfl rfl ⟨(Nat.le_of_ble_eq_true rfl), (Nat.le_of_ble_eq_true rfl)⟩) hK hE hA hP hD hS 0 (T := TX8) (N := 48) (ci := 8) rfl rfl [0, 8, 9, 10, 11, 12, 13, 14] rfl (by decide) rfl rfl rfl rfl rfl rfl hl.1 (Nat.le_of_ble_eq_true rfl) dX8_behindContact_20 ⟨Nat.zero_le _, Nat.zero_le _⟩ (fun H locs hP hD hS => ?_)
    refine lv_aload_n hx hb dX8_behindContact_23 rfl (lv_at hl 0 rfl) ?_
    refine lv_bipush (v := 101) hx hb dX8_behindContact_24 (by decide) ?_
    refine lv_sipush (v := 158) hx hb dX8_behindContact_26 (by decide) ?_
    obtain ⟨r4, hcr4, hM⟩ := ob_use hM
    refine cl_V (As := [.int 101, .int 158]) (rest := []) (wM0 ad o_X o_L o_N r3 r4 o_O o_E o_Q o_V o_I ++ wMC cI ad o_C ++ wMX cI ad o_X ++ wMN cI ad o_N ++ wMT cI ad r3 ++ wMU cI ad r4) [] ⟨hx, hb, hml, hown, hts⟩ (c_Model_push2 l D cI sd ad o_C o_X o_L o_N r3 o_O o_E o_Q o_V o_I o_U 101 158 r4 hcr4) (cwV2 hts q1257 mvX8_push2 rfl rfl ⟨(Nat.le_of_ble_eq_true rfl), (Nat.le_of_ble_eq_true rfl)⟩) hK hE hA hP hD hS 0 (T := TX8) (N := 48) (ci := 8) rfl rfl [0, 15] rfl (by decide) rfl rfl rfl rfl rfl rfl hl.1 (Nat.le_of_ble_eq_true rfl) dX8_behindContact_29 ⟨Nat.zero_le _, Nat.zero_le _⟩ (fun H locs hP hD hS => ?_)
    refine lv_aload_n hx hb dX8_behindContact_32 rfl (lv_at hl 0 rfl) ?_
    obtain ⟨r5, hcr5, hM⟩ := ob_use hM
    refine cl_V (As := []) (rest := []) (wM0 ad o_X r5.1 r5.2 r3 r4 o_O o_E o_Q o_V o_I ++ wMC cI ad o_C ++ wMX cI ad o_X ++ wMN cI ad r5.2 ++ wMT cI ad r3 ++ wMU cI ad r4) [] ⟨hx, hb, hml, hown, hts⟩ (c_Model_step l D cI sd ad r3 r4 o_O o_E o_Q o_V o_I o_C o_X o_L o_N r5 hcr5) (cwV2 hts q1151 mvX8_step rfl rfl ⟨(Nat.le_of_ble_eq_true rfl), (Nat.le_of_ble_eq_true rfl)⟩) hK hE hA hP hD hS 0 (T := TX8) (N := 48) (ci := 8) rfl rfl [0, 1, 2, 3, 4, 5, 6, 7] rfl (by decide) rfl rfl rfl rfl rfl rfl hl.1 (Nat.le_of_ble_eq_true rfl) dX8_behindContact_33 ⟨Nat.zero_le _, Nat.zero_le _⟩ (fun H locs hP hD hS => ?_)
    refine lv_goto (tgt := 53) hx hb dX8_behindContact_36 (by decide) ?_
    cases hM
    exact rt_v hx hb hr hlk hP hD hS rfl dX8_behindContact_53

set_option maxHeartbeats 4000000 in
set_option maxRecDepth 100000 in
theorem c_Model_coil (l : Launch) (D : va_G) (cI : ClassId) (sd : Nat → Nat) (ad : Nat → Nat) (o_U : S_MU) (o_O : S_MO) (o_E : S_ME) (o_Q : S_MQ) (o_V : S_MV) (o_I : S_MI) (o_C : S_MC) (o_X : S_MX) (o_L : S_ML) (o_N : S_MN) (o_T : S_MT) (res : S_ML × S_MN × S_MT) (hM : f_Model_coil o_C o_X o_L o_N o_T = some res) : Ctr l D cI sd yX8_coil (wsM yX8_coil cX8_coil 2 (Option.none : Option Jvm.ClassFile.FieldType)) { frames := 5, cells := 0, slots := 0, locals := 112 } [.ref (ad 100)] (wM0 ad o_X o_L o_N o_T o_U o_O o_E o_Q o_V o_I ++ wMC cI ad o_C ++ wMX cI ad o_X ++ wMN cI ad o_N ++ wMT cI ad o_T) (wM0 ad o_X res.1 res.2.1 res.2.2 o_U o_O o_E o_Q o_V o_I ++ wMC cI ad o_C ++ wMX cI ad o_X ++ wMN cI ad res.2.1 ++ wMT cI ad res.2.2) none := by
  refine Ctr.of (cc := cX8_coil) (maxL := 2) (own := RX8) (by decide +kernel) rfl rfl (Nat.le_of_ble_eq_true rfl) ?_
  intro p e s m below meth c A ls hx hb hr hml hown hts hlk hK hE hA hP hD hS hl
  have hl : lv_has ls 2 [(0, .ref (ad 100))] := hl
  unfold f_Model_coil at hM
  refine lv_aload_n hx hb dX8_coil_0 rfl (lv_at hl 0 rfl) ?_
  refine va_get (D := D) (ci := 8) (v := .int o_L.2.1) (C := RX8) (T := TX8) (N := 48) hx hb hts layX8 hown hK hP 0 rfl rfl 7 (by decide) (hts _ (inA q985)) (fun _ h9 => h9) rfl dX8_coil_1 ?_
  refine lv_bipush (v := 66) hx hb dX8_coil_4 (by decide) ?_
  refine lv_icmp_ne (tgt := 13) hx hb dX8_coil_6 (by decide) (fun c1 => ?_) (fun c1 => ?_)
  · replace hM := if_f c1 hM
    refine lv_aload_n hx hb dX8_coil_13 rfl (lv_at hl 0 rfl) ?_
    refine va_get (D := D) (ci := 8) (v := .int o_L.2.1) (C := RX8) (T := TX8) (N := 48) hx hb hts layX8 hown hK hP 0 rfl rfl 7 (by decide) (hts _ (inA q985)) (fun _ h9 => h9) rfl dX8_coil_14 ?_
    refine lv_bipush (v := 63) hx hb dX8_coil_17 (by decide) ?_
    refine lv_icmp_ne (tgt := 26) hx hb dX8_coil_19 (by decide) (fun c2 => ?_) (fun c2 => ?_)
    · replace hM := if_f c2 hM
      refine lv_aload_n hx hb dX8_coil_26 rfl (lv_at hl 0 rfl) ?_
      refine va_get (D := D) (ci := 8) (v := .int o_L.2.1) (C := RX8) (T := TX8) (N := 48) hx hb hts layX8 hown hK hP 0 rfl rfl 7 (by decide) (hts _ (inA q985)) (fun _ h9 => h9) rfl dX8_coil_27 ?_
      refine lv_bipush (v := 64) hx hb dX8_coil_30 (by decide) ?_
      refine lv_icmp_ne (tgt := 39) hx hb dX8_coil_32 (by decide) (fun c3 => ?_) (fun c3 => ?_)
      · replace hM := if_f c3 hM
        refine lv_iconst (v := 0) hx hb dX8_coil_39 (by decide) ?_
        refine lv_istore_n (lv' := [(1, .int 0), (0, .ref (ad 100))]) hx hb dX8_coil_40 rfl hl (by decide) rfl (fun ls hl => ?_)
        refine lv_aload_n hx hb dX8_coil_41 rfl (lv_at hl 1 rfl) ?_
        refine va_get (D := D) (ci := 8) (v := .ref (ad 110)) (C := RX8) (T := TX8) (N := 48) hx hb hts layX8 hown hK hP 0 rfl rfl 19 (by decide) (hts _ (inA q997)) (fun _ h9 => h9) rfl dX8_coil_42 ?_
        refine lv_aload_n hx hb dX8_coil_45 rfl (lv_at hl 1 rfl) ?_
        refine va_get (D := D) (ci := 8) (v := .int o_T.2.1) (C := RX8) (T := TX8) (N := 48) hx hb hts layX8 hown hK hP 0 rfl rfl 24 (by decide) (hts _ (inA q1002)) (fun _ h9 => h9) rfl dX8_coil_46 ?_
        refine lv_iload_n hx hb dX8_coil_49 rfl (lv_at hl 0 rfl) ?_
        obtain ⟨b4, hM⟩ := gd_use hM
        refine va_iast hx hb hK hP hD hS 10 0 rfl rfl b4 dX8_coil_50 (fun H locs hP hD hS => ?_)
        have hP : va_P D vwCl (wM0 ad o_X o_L o_N (o_T.1, o_T.2.1, o_T.2.2.1, o_T.2.2.2.1, upd o_T.2.2.2.2.1 o_T.2.1.toNatClampNeg 0, o_T.2.2.2.2.2) o_U o_O o_E o_Q o_V o_I ++ wMC cI ad o_C ++ wMX cI ad o_X ++ wMN cI ad o_N ++ wMT cI ad (o_T.1, o_T.2.1, o_T.2.2.1, o_T.2.2.2.1, upd o_T.2.2.2.2.1 o_T.2.1.toNatClampNeg 0, o_T.2.2.2.2.2)) H := hP
        have hD : va_D A (wM0 ad o_X o_L o_N (o_T.1, o_T.2.1, o_T.2.2.1, o_T.2.2.2.1, upd o_T.2.2.2.2.1 o_T.2.1.toNatClampNeg 0, o_T.2.2.2.2.2) o_U o_O o_E o_Q o_V o_I ++ wMC cI ad o_C ++ wMX cI ad o_X ++ wMN cI ad o_N ++ wMT cI ad (o_T.1, o_T.2.1, o_T.2.2.1, o_T.2.2.2.1, upd o_T.2.2.2.2.1 o_T.2.1.toNatClampNeg 0, o_T.2.2.2.2.2)) := hD
        refine lv_iload_n hx hb dX8_coil_51 rfl (lv_at hl 0 rfl) ?_
        refine lv_if_le (tgt := 59) hx hb dX8_coil_52 (by decide) (fun c5 => ?_) (fun c5 => False.elim (by revert c5; decide))
        cases hM
        exact rt_v hx hb hr hlk hP hD hS rfl dX8_coil_59
      · replace hM := if_t c3 hM
        refine lv_iconst (v := 3) hx hb dX8_coil_35 (by decide) ?_
        refine lv_goto (tgt := 40) hx hb dX8_coil_36 (by decide) ?_
        refine lv_istore_n (lv' := [(1, .int 3), (0, .ref (ad 100))]) hx hb dX8_coil_40 rfl hl (by decide) rfl (fun ls hl => ?_)
        refine lv_aload_n hx hb dX8_coil_41 rfl (lv_at hl 1 rfl) ?_
        refine va_get (D := D) (ci := 8) (v := .ref (ad 110)) (C := RX8) (T := TX8) (N := 48) hx hb hts layX8 hown hK hP 0 rfl rfl 19 (by decide) (hts _ (inA q997)) (fun _ h9 => h9) rfl dX8_coil_42 ?_
        refine lv_aload_n hx hb dX8_coil_45 rfl (lv_at hl 1 rfl) ?_
        refine va_get (D := D) (ci := 8) (v := .int o_T.2.1) (C := RX8) (T := TX8) (N := 48) hx hb hts layX8 hown hK hP 0 rfl rfl 24 (by decide) (hts _ (inA q1002)) (fun _ h9 => h9) rfl dX8_coil_46 ?_
        refine lv_iload_n hx hb dX8_coil_49 rfl (lv_at hl 0 rfl) ?_
        obtain ⟨b6, hM⟩ := gd_use hM
        refine va_iast hx hb hK hP hD hS 10 0 rfl rfl b6 dX8_coil_50 (fun H locs hP hD hS => ?_)
        have hP : va_P D vwCl (wM0 ad o_X o_L o_N (o_T.1, o_T.2.1, o_T.2.2.1, o_T.2.2.2.1, upd o_T.2.2.2.2.1 o_T.2.1.toNatClampNeg 3, o_T.2.2.2.2.2) o_U o_O o_E o_Q o_V o_I ++ wMC cI ad o_C ++ wMX cI ad o_X ++ wMN cI ad o_N ++ wMT cI ad (o_T.1, o_T.2.1, o_T.2.2.1, o_T.2.2.2.1, upd o_T.2.2.2.2.1 o_T.2.1.toNatClampNeg 3, o_T.2.2.2.2.2)) H := hP
        have hD : va_D A (wM0 ad o_X o_L o_N (o_T.1, o_T.2.1, o_T.2.2.1, o_T.2.2.2.1, upd o_T.2.2.2.2.1 o_T.2.1.toNatClampNeg 3, o_T.2.2.2.2.2) o_U o_O o_E o_Q o_V o_I ++ wMC cI ad o_C ++ wMX cI ad o_X ++ wMN cI ad o_N ++ wMT cI ad (o_T.1, o_T.2.1, o_T.2.2.1, o_T.2.2.2.1, upd o_T.2.2.2.2.1 o_T.2.1.toNatClampNeg 3, o_T.2.2.2.2.2)) := hD
        refine lv_iload_n hx hb dX8_coil_51 rfl (lv_at hl 0 rfl) ?_
        refine lv_if_le (tgt := 59) hx hb dX8_coil_52 (by decide) (fun c7 => False.elim (by revert c7; decide)) (fun c7 => ?_)
        refine lv_aload_n hx hb dX8_coil_55 rfl (lv_at hl 1 rfl) ?_
        obtain ⟨r8, hcr8, hM⟩ := ob_use hM
        refine cl_V (As := []) (rest := []) (wM0 ad o_X r8.1 r8.2 (o_T.1, o_T.2.1, o_T.2.2.1, o_T.2.2.2.1, upd o_T.2.2.2.2.1 o_T.2.1.toNatClampNeg 3, o_T.2.2.2.2.2) o_U o_O o_E o_Q o_V o_I ++ wMC cI ad o_C ++ wMX cI ad o_X ++ wMN cI ad r8.2 ++ wMT cI ad (o_T.1, o_T.2.1, o_T.2.2.1, o_T.2.2.2.1, upd o_T.2.2.2.2.1 o_T.2.1.toNatClampNeg 3, o_T.2.2.2.2.2)) [] ⟨hx, hb, hml, hown, hts⟩ (c_Model_step l D cI sd ad (o_T.1, o_T.2.1, o_T.2.2.1, o_T.2.2.2.1, upd o_T.2.2.2.2.1 o_T.2.1.toNatClampNeg 3, o_T.2.2.2.2.2) o_U o_O o_E o_Q o_V o_I o_C o_X o_L o_N r8 hcr8) (cwV2 hts q1151 mvX8_step rfl rfl ⟨(Nat.le_of_ble_eq_true rfl), (Nat.le_of_ble_eq_true rfl)⟩) hK hE hA hP hD hS 0 (T := TX8) (N := 48) (ci := 8) rfl rfl [0, 1, 2, 3, 4, 5, 6, 7] rfl (by decide) rfl rfl rfl rfl rfl rfl hl.1 (Nat.le_of_ble_eq_true rfl) dX8_coil_56 ⟨Nat.zero_le _, Nat.zero_le _⟩ (fun H locs hP hD hS => ?_)
        cases hM
        exact rt_v hx hb hr hlk hP hD hS rfl dX8_coil_59
    · replace hM := if_t c2 hM
      refine lv_iconst (v := 2) hx hb dX8_coil_22 (by decide) ?_
      refine lv_goto (tgt := 40) hx hb dX8_coil_23 (by decide) ?_
      refine lv_istore_n (lv' := [(1, .int 2), (0, .ref (ad 100))]) hx hb dX8_coil_40 rfl hl (by decide) rfl (fun ls hl => ?_)
      refine lv_aload_n hx hb dX8_coil_41 rfl (lv_at hl 1 rfl) ?_
      refine va_get (D := D) (ci := 8) (v := .ref (ad 110)) (C := RX8) (T := TX8) (N := 48) hx hb hts layX8 hown hK hP 0 rfl rfl 19 (by decide) (hts _ (inA q997)) (fun _ h9 => h9) rfl dX8_coil_42 ?_
      refine lv_aload_n hx hb dX8_coil_45 rfl (lv_at hl 1 rfl) ?_
      refine va_get (D := D) (ci := 8) (v := .int o_T.2.1) (C := RX8) (T := TX8) (N := 48) hx hb hts layX8 hown hK hP 0 rfl rfl 24 (by decide) (hts _ (inA q1002)) (fun _ h9 => h9) rfl dX8_coil_46 ?_
      refine lv_iload_n hx hb dX8_coil_49 rfl (lv_at hl 0 rfl) ?_
      obtain ⟨b9, hM⟩ := gd_use hM
      refine va_iast hx hb hK hP hD hS 10 0 rfl rfl b9 dX8_coil_50 (fun H locs hP hD hS => ?_)
      have hP : va_P D vwCl (wM0 ad o_X o_L o_N (o_T.1, o_T.2.1, o_T.2.2.1, o_T.2.2.2.1, upd o_T.2.2.2.2.1 o_T.2.1.toNatClampNeg 2, o_T.2.2.2.2.2) o_U o_O o_E o_Q o_V o_I ++ wMC cI ad o_C ++ wMX cI ad o_X ++ wMN cI ad o_N ++ wMT cI ad (o_T.1, o_T.2.1, o_T.2.2.1, o_T.2.2.2.1, upd o_T.2.2.2.2.1 o_T.2.1.toNatClampNeg 2, o_T.2.2.2.2.2)) H := hP
      have hD : va_D A (wM0 ad o_X o_L o_N (o_T.1, o_T.2.1, o_T.2.2.1, o_T.2.2.2.1, upd o_T.2.2.2.2.1 o_T.2.1.toNatClampNeg 2, o_T.2.2.2.2.2) o_U o_O o_E o_Q o_V o_I ++ wMC cI ad o_C ++ wMX cI ad o_X ++ wMN cI ad o_N ++ wMT cI ad (o_T.1, o_T.2.1, o_T.2.2.1, o_T.2.2.2.1, upd o_T.2.2.2.2.1 o_T.2.1.toNatClampNeg 2, o_T.2.2.2.2.2)) := hD
      refine lv_iload_n hx hb dX8_coil_51 rfl (lv_at hl 0 rfl) ?_
      refine lv_if_le (tgt := 59) hx hb dX8_coil_52 (by decide) (fun c10 => False.elim (by revert c10; decide)) (fun c10 => ?_)
      refine lv_aload_n hx hb dX8_coil_55 rfl (lv_at hl 1 rfl) ?_
      obtain ⟨r11, hcr11, hM⟩ := ob_use hM
      refine cl_V (As := []) (rest := []) (wM0 ad o_X r11.1 r11.2 (o_T.1, o_T.2.1, o_T.2.2.1, o_T.2.2.2.1, upd o_T.2.2.2.2.1 o_T.2.1.toNatClampNeg 2, o_T.2.2.2.2.2) o_U o_O o_E o_Q o_V o_I ++ wMC cI ad o_C ++ wMX cI ad o_X ++ wMN cI ad r11.2 ++ wMT cI ad (o_T.1, o_T.2.1, o_T.2.2.1, o_T.2.2.2.1, upd o_T.2.2.2.2.1 o_T.2.1.toNatClampNeg 2, o_T.2.2.2.2.2)) [] ⟨hx, hb, hml, hown, hts⟩ (c_Model_step l D cI sd ad (o_T.1, o_T.2.1, o_T.2.2.1, o_T.2.2.2.1, upd o_T.2.2.2.2.1 o_T.2.1.toNatClampNeg 2, o_T.2.2.2.2.2) o_U o_O o_E o_Q o_V o_I o_C o_X o_L o_N r11 hcr11) (cwV2 hts q1151 mvX8_step rfl rfl ⟨(Nat.le_of_ble_eq_true rfl), (Nat.le_of_ble_eq_true rfl)⟩) hK hE hA hP hD hS 0 (T := TX8) (N := 48) (ci := 8) rfl rfl [0, 1, 2, 3, 4, 5, 6, 7] rfl (by decide) rfl rfl rfl rfl rfl rfl hl.1 (Nat.le_of_ble_eq_true rfl) dX8_coil_56 ⟨Nat.zero_le _, Nat.zero_le _⟩ (fun H locs hP hD hS => ?_)
      cases hM
      exact rt_v hx hb hr hlk hP hD hS rfl dX8_coil_59
  · replace hM := if_t c1 hM
    refine lv_iconst (v := 1) hx hb dX8_coil_9 (by decide) ?_
    refine lv_goto (tgt := 40) hx hb dX8_coil_10 (by decide) ?_
    refine lv_istore_n (lv' := [(1, .int 1), (0, .ref (ad 100))]) hx hb dX8_coil_40 rfl hl (by decide) rfl (fun ls hl => ?_)
    refine lv_aload_n hx hb dX8_coil_41 rfl (lv_at hl 1 rfl) ?_
    refine va_get (D := D) (ci := 8) (v := .ref (ad 110)) (C := RX8) (T := TX8) (N := 48) hx hb hts layX8 hown hK hP 0 rfl rfl 19 (by decide) (hts _ (inA q997)) (fun _ h9 => h9) rfl dX8_coil_42 ?_
    refine lv_aload_n hx hb dX8_coil_45 rfl (lv_at hl 1 rfl) ?_
    refine va_get (D := D) (ci := 8) (v := .int o_T.2.1) (C := RX8) (T := TX8) (N := 48) hx hb hts layX8 hown hK hP 0 rfl rfl 24 (by decide) (hts _ (inA q1002)) (fun _ h9 => h9) rfl dX8_coil_46 ?_
    refine lv_iload_n hx hb dX8_coil_49 rfl (lv_at hl 0 rfl) ?_
    obtain ⟨b12, hM⟩ := gd_use hM
    refine va_iast hx hb hK hP hD hS 10 0 rfl rfl b12 dX8_coil_50 (fun H locs hP hD hS => ?_)
    have hP : va_P D vwCl (wM0 ad o_X o_L o_N (o_T.1, o_T.2.1, o_T.2.2.1, o_T.2.2.2.1, upd o_T.2.2.2.2.1 o_T.2.1.toNatClampNeg 1, o_T.2.2.2.2.2) o_U o_O o_E o_Q o_V o_I ++ wMC cI ad o_C ++ wMX cI ad o_X ++ wMN cI ad o_N ++ wMT cI ad (o_T.1, o_T.2.1, o_T.2.2.1, o_T.2.2.2.1, upd o_T.2.2.2.2.1 o_T.2.1.toNatClampNeg 1, o_T.2.2.2.2.2)) H := hP
    have hD : va_D A (wM0 ad o_X o_L o_N (o_T.1, o_T.2.1, o_T.2.2.1, o_T.2.2.2.1, upd o_T.2.2.2.2.1 o_T.2.1.toNatClampNeg 1, o_T.2.2.2.2.2) o_U o_O o_E o_Q o_V o_I ++ wMC cI ad o_C ++ wMX cI ad o_X ++ wMN cI ad o_N ++ wMT cI ad (o_T.1, o_T.2.1, o_T.2.2.1, o_T.2.2.2.1, upd o_T.2.2.2.2.1 o_T.2.1.toNatClampNeg 1, o_T.2.2.2.2.2)) := hD
    refine lv_iload_n hx hb dX8_coil_51 rfl (lv_at hl 0 rfl) ?_
    refine lv_if_le (tgt := 59) hx hb dX8_coil_52 (by decide) (fun c13 => False.elim (by revert c13; decide)) (fun c13 => ?_)
    refine lv_aload_n hx hb dX8_coil_55 rfl (lv_at hl 1 rfl) ?_
    obtain ⟨r14, hcr14, hM⟩ := ob_use hM
    refine cl_V (As := []) (rest := []) (wM0 ad o_X r14.1 r14.2 (o_T.1, o_T.2.1, o_T.2.2.1, o_T.2.2.2.1, upd o_T.2.2.2.2.1 o_T.2.1.toNatClampNeg 1, o_T.2.2.2.2.2) o_U o_O o_E o_Q o_V o_I ++ wMC cI ad o_C ++ wMX cI ad o_X ++ wMN cI ad r14.2 ++ wMT cI ad (o_T.1, o_T.2.1, o_T.2.2.1, o_T.2.2.2.1, upd o_T.2.2.2.2.1 o_T.2.1.toNatClampNeg 1, o_T.2.2.2.2.2)) [] ⟨hx, hb, hml, hown, hts⟩ (c_Model_step l D cI sd ad (o_T.1, o_T.2.1, o_T.2.2.1, o_T.2.2.2.1, upd o_T.2.2.2.2.1 o_T.2.1.toNatClampNeg 1, o_T.2.2.2.2.2) o_U o_O o_E o_Q o_V o_I o_C o_X o_L o_N r14 hcr14) (cwV2 hts q1151 mvX8_step rfl rfl ⟨(Nat.le_of_ble_eq_true rfl), (Nat.le_of_ble_eq_true rfl)⟩) hK hE hA hP hD hS 0 (T := TX8) (N := 48) (ci := 8) rfl rfl [0, 1, 2, 3, 4, 5, 6, 7] rfl (by decide) rfl rfl rfl rfl rfl rfl hl.1 (Nat.le_of_ble_eq_true rfl) dX8_coil_56 ⟨Nat.zero_le _, Nat.zero_le _⟩ (fun H locs hP hD hS => ?_)
    cases hM
    exact rt_v hx hb hr hlk hP hD hS rfl dX8_coil_59

set_option maxHeartbeats 4000000 in
set_option maxRecDepth 100000 in
theorem c_Model_moreCells (l : Launch) (D : va_G) (cI : ClassId) (sd : Nat → Nat) (ad : Nat → Nat) (o_O : S_MO) (o_E : S_ME) (o_Q : S_MQ) (o_V : S_MV) (o_I : S_MI) (o_C : S_MC) (o_X : S_MX) (o_L : S_ML) (o_N : S_MN) (o_T : S_MT) (o_U : S_MU) (res : S_ML × S_MN × S_MT × S_MU) (hM : f_Model_moreCells o_C o_X o_L o_N o_T o_U = some res) : Ctr l D cI sd yX8_moreCells (wsM yX8_moreCells cX8_moreCells 1 (Option.none : Option Jvm.ClassFile.FieldType)) { frames := 5, cells := 0, slots := 0, locals := 112 } [.ref (ad 100)] (wM0 ad o_X o_L o_N o_T o_U o_O o_E o_Q o_V o_I ++ wMC cI ad o_C ++ wMX cI ad o_X ++ wMN cI ad o_N ++ wMT cI ad o_T ++ wMU cI ad o_U) (wM0 ad o_X res.1 res.2.1 res.2.2.1 res.2.2.2 o_O o_E o_Q o_V o_I ++ wMC cI ad o_C ++ wMX cI ad o_X ++ wMN cI ad res.2.1 ++ wMT cI ad res.2.2.1 ++ wMU cI ad res.2.2.2) none := by
  refine Ctr.of (cc := cX8_moreCells) (maxL := 1) (own := RX8) (by decide +kernel) rfl rfl (Nat.le_of_ble_eq_true rfl) ?_
  intro p e s m below meth c A ls hx hb hr hml hown hts hlk hK hE hA hP hD hS hl
  have hl : lv_has ls 1 [(0, .ref (ad 100))] := hl
  unfold f_Model_moreCells at hM
  refine lv_aload_n hx hb dX8_moreCells_0 rfl (lv_at hl 0 rfl) ?_
  refine va_get (D := D) (ci := 8) (v := .int o_L.2.1) (C := RX8) (T := TX8) (N := 48) hx hb hts layX8 hown hK hP 0 rfl rfl 7 (by decide) (hts _ (inA q985)) (fun _ h9 => h9) rfl dX8_moreCells_1 ?_
  refine lv_bipush (v := 71) hx hb dX8_moreCells_4 (by decide) ?_
  refine lv_icmp_ne (tgt := 37) hx hb dX8_moreCells_6 (by decide) (fun c1 => ?_) (fun c1 => ?_)
  · replace hM := if_f c1 hM
    refine lv_aload_n hx hb dX8_moreCells_37 rfl (lv_at hl 0 rfl) ?_
    obtain ⟨r2, hcr2, hM⟩ := ob_use hM
    refine cl_V (As := []) (rest := []) (wM0 ad o_X o_L o_N o_T o_U o_O o_E o_Q o_V o_I ++ wMC cI ad o_C ++ wMX cI ad o_X ++ wMN cI ad o_N ++ wMT cI ad o_T ++ wMU cI ad o_U) (.int r2 :: []) ⟨hx, hb, hml, hown, hts⟩ (c_Model_isCell l D cI sd ad o_C o_X o_N o_T o_U o_O o_E o_Q o_V o_I o_L r2 hcr2) (cwV2 hts q1460 mvX8_isCell rfl rfl ⟨(Nat.le_of_ble_eq_true rfl), (Nat.le_of_ble_eq_true rfl)⟩) hK hE hA hP hD hS 0 (T := TX8) (N := 48) (ci := 8) rfl rfl [0] rfl (by decide) rfl rfl rfl rfl rfl rfl hl.1 (Nat.le_of_ble_eq_true rfl) dX8_moreCells_38 ⟨Nat.zero_le _, Nat.zero_le _⟩ (fun H locs hP hD hS => ?_)
    refine lv_if_eq (tgt := 54) hx hb dX8_moreCells_41 (by decide) (fun c3 => ?_) (fun c3 => ?_)
    · replace hM := if_t c3 hM
      cases hM
      exact rt_v hx hb hr hlk hP hD hS rfl dX8_moreCells_54
    · replace hM := if_f c3 hM
      refine lv_aload_n hx hb dX8_moreCells_44 rfl (lv_at hl 0 rfl) ?_
      refine lv_sipush (v := 154) hx hb dX8_moreCells_45 (by decide) ?_
      refine lv_sipush (v := 153) hx hb dX8_moreCells_48 (by decide) ?_
      obtain ⟨r4, hcr4, hM⟩ := ob_use hM
      refine cl_V (As := [.int 154, .int 153]) (rest := []) (wM0 ad o_X o_L o_N o_T r4 o_O o_E o_Q o_V o_I ++ wMC cI ad o_C ++ wMX cI ad o_X ++ wMN cI ad o_N ++ wMT cI ad o_T ++ wMU cI ad r4) [] ⟨hx, hb, hml, hown, hts⟩ (c_Model_push2 l D cI sd ad o_C o_X o_L o_N o_T o_O o_E o_Q o_V o_I o_U 154 153 r4 hcr4) (cwV2 hts q1257 mvX8_push2 rfl rfl ⟨(Nat.le_of_ble_eq_true rfl), (Nat.le_of_ble_eq_true rfl)⟩) hK hE hA hP hD hS 0 (T := TX8) (N := 48) (ci := 8) rfl rfl [0, 15] rfl (by decide) rfl rfl rfl rfl rfl rfl hl.1 (Nat.le_of_ble_eq_true rfl) dX8_moreCells_51 ⟨Nat.zero_le _, Nat.zero_le _⟩ (fun H locs hP hD hS => ?_)
      cases hM
      exact rt_v hx hb hr hlk hP hD hS rfl dX8_moreCells_54
  · replace hM := if_t c1 hM
    refine lv_aload_n hx hb dX8_moreCells_9 rfl (lv_at hl 0 rfl) ?_
    refine lv_bipush (v := 29) hx hb dX8_moreCells_10 (by decide) ?_
    refine lv_aload_n hx hb dX8_moreCells_12 rfl (lv_at hl 0 rfl) ?_
    refine va_get (D := D) (ci := 8) (v := .int o_L.1) (C := RX8) (T := TX8) (N := 48) hx hb hts layX8 hown hK hP 0 rfl rfl 6 (by decide) (hts _ (inA q984)) (fun _ h9 => h9) rfl dX8_moreCells_13 ?_
    refine lv_iconst (v := 0) hx hb dX8_moreCells_16 (by decide) ?_
    obtain ⟨r5, hcr5, hM⟩ := ob_use hM
    refine cl_V (As := [.int 29, .int o_L.1, .int 0]) (rest := []) (wM0 ad o_X o_L o_N r5 o_U o_O o_E o_Q o_V o_I ++ wMC cI ad o_C ++ wMX cI ad o_X ++ wMN cI ad o_N ++ wMT cI ad r5 ++ wMU cI ad o_U) [] ⟨hx, hb, hml, hown, hts⟩ (c_Model_leaf l D cI sd ad o_C o_X o_L o_N o_U o_O o_E o_Q o_V o_I o_T 29 o_L.1 0 r5 hcr5) (cwV2 hts q1277 mvX8_leaf rfl rfl ⟨(Nat.le_of_ble_eq_true rfl), (Nat.le_of_ble_eq_true rfl)⟩) hK hE hA hP hD hS 0 (T := TX8) (N := 48) (ci := 8) rfl rfl [0, 8, 9, 10, 11, 12, 13, 14] rfl (by decide) rfl rfl rfl rfl rfl rfl hl.1 (Nat.le_of_ble_eq_true rfl) dX8_moreCells_17 ⟨Nat.zero_le _, Nat.zero_le _⟩ (fun H locs hP hD hS => ?_)
    refine lv_aload_n hx hb dX8_moreCells_20 rfl (lv_at hl 0 rfl) ?_
    refine lv_sipush (v := 154) hx hb dX8_moreCells_21 (by decide) ?_
    refine lv_sipush (v := 153) hx hb dX8_moreCells_24 (by decide) ?_
    obtain ⟨r6, hcr6, hM⟩ := ob_use hM
    refine cl_V (As := [.int 154, .int 153]) (rest := []) (wM0 ad o_X o_L o_N r5 r6 o_O o_E o_Q o_V o_I ++ wMC cI ad o_C ++ wMX cI ad o_X ++ wMN cI ad o_N ++ wMT cI ad r5 ++ wMU cI ad r6) [] ⟨hx, hb, hml, hown, hts⟩ (c_Model_push2 l D cI sd ad o_C o_X o_L o_N r5 o_O o_E o_Q o_V o_I o_U 154 153 r6 hcr6) (cwV2 hts q1257 mvX8_push2 rfl rfl ⟨(Nat.le_of_ble_eq_true rfl), (Nat.le_of_ble_eq_true rfl)⟩) hK hE hA hP hD hS 0 (T := TX8) (N := 48) (ci := 8) rfl rfl [0, 15] rfl (by decide) rfl rfl rfl rfl rfl rfl hl.1 (Nat.le_of_ble_eq_true rfl) dX8_moreCells_27 ⟨Nat.zero_le _, Nat.zero_le _⟩ (fun H locs hP hD hS => ?_)
    refine lv_aload_n hx hb dX8_moreCells_30 rfl (lv_at hl 0 rfl) ?_
    obtain ⟨r7, hcr7, hM⟩ := ob_use hM
    refine cl_V (As := []) (rest := []) (wM0 ad o_X r7.1 r7.2 r5 r6 o_O o_E o_Q o_V o_I ++ wMC cI ad o_C ++ wMX cI ad o_X ++ wMN cI ad r7.2 ++ wMT cI ad r5 ++ wMU cI ad r6) [] ⟨hx, hb, hml, hown, hts⟩ (c_Model_step l D cI sd ad r5 r6 o_O o_E o_Q o_V o_I o_C o_X o_L o_N r7 hcr7) (cwV2 hts q1151 mvX8_step rfl rfl ⟨(Nat.le_of_ble_eq_true rfl), (Nat.le_of_ble_eq_true rfl)⟩) hK hE hA hP hD hS 0 (T := TX8) (N := 48) (ci := 8) rfl rfl [0, 1, 2, 3, 4, 5, 6, 7] rfl (by decide) rfl rfl rfl rfl rfl rfl hl.1 (Nat.le_of_ble_eq_true rfl) dX8_moreCells_31 ⟨Nat.zero_le _, Nat.zero_le _⟩ (fun H locs hP hD hS => ?_)
    refine lv_goto (tgt := 54) hx hb dX8_moreCells_34 (by decide) ?_
    cases hM
    exact rt_v hx hb hr hlk hP hD hS rfl dX8_moreCells_54

set_option maxHeartbeats 4000000 in
set_option maxRecDepth 100000 in
theorem c_Model_actBlock (l : Launch) (D : va_G) (cI : ClassId) (sd : Nat → Nat) (ad : Nat → Nat) (o_E : S_ME) (o_Q : S_MQ) (o_V : S_MV) (o_I : S_MI) (o_C : S_MC) (o_X : S_MX) (o_L : S_ML) (o_N : S_MN) (o_T : S_MT) (o_U : S_MU) (o_O : S_MO) (a1 : Int32) (res : S_ML × S_MN × S_MT × S_MU × S_MO) (hM : f_Model_actBlock o_C o_X o_L o_N o_T o_U o_O a1 = some res) : Ctr l D cI sd yX8_actBlock (wsM yX8_actBlock cX8_actBlock 2 (Option.none : Option Jvm.ClassFile.FieldType)) { frames := 7, cells := 0, slots := 0, locals := 153 } [.ref (ad 100), .int a1] (wM0 ad o_X o_L o_N o_T o_U o_O o_E o_Q o_V o_I ++ wMC cI ad o_C ++ wMX cI ad o_X ++ wMN cI ad o_N ++ wMT cI ad o_T ++ wMU cI ad o_U) (wM0 ad o_X res.1 res.2.1 res.2.2.1 res.2.2.2.1 res.2.2.2.2 o_E o_Q o_V o_I ++ wMC cI ad o_C ++ wMX cI ad o_X ++ wMN cI ad res.2.1 ++ wMT cI ad res.2.2.1 ++ wMU cI ad res.2.2.2.1) none := by
  refine Ctr.of (cc := cX8_actBlock) (maxL := 2) (own := RX8) (by decide +kernel) rfl rfl (Nat.le_of_ble_eq_true rfl) ?_
  intro p e s m below meth c A ls hx hb hr hml hown hts hlk hK hE hA hP hD hS hl
  have hl : lv_has ls 2 [(0, .ref (ad 100)), (1, .int a1)] := hl
  unfold f_Model_actBlock at hM
  refine lv_iload_n hx hb dX8_actBlock_0 rfl (lv_at hl 1 rfl) ?_
  by_cases c1 : a1 = 100
  · replace hM := if_t c1 hM
    refine lv_tableIn (tgt := 72) hx hb dX8_actBlock_1 (by rw [c1]; decide) (by rw [c1]; decide) (by rw [c1]; rfl) (by decide) ?_
    refine lv_aload_n hx hb dX8_actBlock_72 rfl (lv_at hl 0 rfl) ?_
    obtain ⟨r2, hcr2, hM⟩ := ob_use hM
    refine cl_V (As := []) (rest := []) (wM0 ad o_X r2.1 r2.2.1 r2.2.2.1 r2.2.2.2 o_O o_E o_Q o_V o_I ++ wMC cI ad o_C ++ wMX cI ad o_X ++ wMN cI ad r2.2.1 ++ wMT cI ad r2.2.2.1 ++ wMU cI ad r2.2.2.2) [] ⟨hx, hb, hml, hown, hts⟩ (c_Model_blocks l D cI sd ad o_O o_E o_Q o_V o_I o_C o_X o_L o_N o_T o_U r2 hcr2) (cwV2 hts q1241 mvX8_blocks rfl rfl ⟨(Nat.le_of_ble_eq_true rfl), (Nat.le_of_ble_eq_true rfl)⟩) hK hE hA hP hD hS 0 (T := TX8) (N := 48) (ci := 8) rfl rfl [0, 1, 2, 3, 4, 5, 6, 7, 8, 9, 10, 11, 12, 13, 14, 15] rfl (by decide) rfl rfl rfl rfl rfl rfl hl.1 (Nat.le_of_ble_eq_true rfl) dX8_actBlock_73 ⟨Nat.zero_le _, Nat.zero_le _⟩ (fun H locs hP hD hS => ?_)
    refine lv_goto (tgt := 211) hx hb dX8_actBlock_76 (by decide) ?_
    cases hM
    exact rt_v hx hb hr hlk hP hD hS rfl dX8_actBlock_211
  replace hM := if_f c1 hM
  by_cases c3 : a1 = 101
  · replace hM := if_t c3 hM
    refine lv_tableIn (tgt := 79) hx hb dX8_actBlock_1 (by rw [c3]; decide) (by rw [c3]; decide) (by rw [c3]; rfl) (by decide) ?_
    refine lv_aload_n hx hb dX8_actBlock_79 rfl (lv_at hl 0 rfl) ?_
    obtain ⟨r4, hcr4, hM⟩ := ob_use hM
    refine cl_V (As := []) (rest := []) (wM0 ad o_X o_L o_N r4 o_U o_O o_E o_Q o_V o_I ++ wMC cI ad o_C ++ wMX cI ad o_X ++ wMN cI ad o_N ++ wMT cI ad r4 ++ wMU cI ad o_U) [] ⟨hx, hb, hml, hown, hts⟩ (c_Model_up l D cI sd ad o_C o_X o_L o_N o_U o_O o_E o_Q o_V o_I o_T r4 hcr4) (cwV2 hts q1261 mvX8_up rfl rfl ⟨(Nat.le_of_ble_eq_true rfl), (Nat.le_of_ble_eq_true rfl)⟩) hK hE hA hP hD hS 0 (T := TX8) (N := 48) (ci := 8) rfl rfl [0, 8, 9, 10, 11, 12, 13, 14] rfl (by decide) rfl rfl rfl rfl rfl rfl hl.1 (Nat.le_of_ble_eq_true rfl) dX8_actBlock_80 ⟨Nat.zero_le _, Nat.zero_le _⟩ (fun H locs hP hD hS => ?_)
    refine lv_goto (tgt := 211) hx hb dX8_actBlock_83 (by decide) ?_
    cases hM
    exact rt_v hx hb hr hlk hP hD hS rfl dX8_actBlock_211
  replace hM := if_f c3 hM
  by_cases c5 : a1 = 102
  · replace hM := if_t c5 hM
    refine lv_tableIn (tgt := 86) hx hb dX8_actBlock_1 (by rw [c5]; decide) (by rw [c5]; decide) (by rw [c5]; rfl) (by decide) ?_
    refine lv_aload_n hx hb dX8_actBlock_86 rfl (lv_at hl 0 rfl) ?_
    obtain ⟨r6, hcr6, hM⟩ := ob_use hM
    refine cl_V (As := []) (rest := []) (wM0 ad o_X r6.1 r6.2.1 r6.2.2.1 r6.2.2.2 o_O o_E o_Q o_V o_I ++ wMC cI ad o_C ++ wMX cI ad o_X ++ wMN cI ad r6.2.1 ++ wMT cI ad r6.2.2.1 ++ wMU cI ad r6.2.2.2) [] ⟨hx, hb, hml, hown, hts⟩ (c_Model_body l D cI sd ad o_O o_E o_Q o_V o_I o_C o_X o_L o_N o_T o_U r6 hcr6) (cwV2 hts q1265 mvX8_body rfl rfl ⟨(Nat.le_of_ble_eq_true rfl), (Nat.le_of_ble_eq_true rfl)⟩) hK hE hA hP hD hS 0 (T := TX8) (N := 48) (ci := 8) rfl rfl [0, 1, 2, 3, 4, 5, 6, 7, 8, 9, 10, 11, 12, 13, 14, 15] rfl (by decide) rfl rfl rfl rfl rfl rfl hl.1 (Nat.le_of_ble_eq_true rfl) dX8_actBlock_87 ⟨Nat.zero_le _, Nat.zero_le _⟩ (fun H locs hP hD hS => ?_)
    refine lv_goto (tgt := 211) hx hb dX8_actBlock_90 (by decide) ?_
    cases hM
    exact rt_v hx hb hr hlk hP hD hS rfl dX8_actBlock_211
  replace hM := if_f c5 hM
  by_cases c7 : a1 = 103
  · replace hM := if_t c7 hM
    refine lv_tableIn (tgt := 93) hx hb dX8_actBlock_1 (by rw [c7]; decide) (by rw [c7]; decide) (by rw [c7]; rfl) (by decide) ?_
    refine lv_aload_n hx hb dX8_actBlock_93 rfl (lv_at hl 0 rfl) ?_
    obtain ⟨r8, hcr8, hM⟩ := ob_use hM
    refine cl_V (As := []) (rest := []) (wM0 ad o_X r8.1 r8.2.1 r8.2.2.1 r8.2.2.2 o_O o_E o_Q o_V o_I ++ wMC cI ad o_C ++ wMX cI ad o_X ++ wMN cI ad r8.2.1 ++ wMT cI ad r8.2.2.1 ++ wMU cI ad r8.2.2.2) [] ⟨hx, hb, hml, hown, hts⟩ (c_Model_sections l D cI sd ad o_O o_E o_Q o_V o_I o_C o_X o_L o_N o_T o_U r8 hcr8) (cwV2 hts q1269 mvX8_sections rfl rfl ⟨(Nat.le_of_ble_eq_true rfl), (Nat.le_of_ble_eq_true rfl)⟩) hK hE hA hP hD hS 0 (T := TX8) (N := 48) (ci := 8) rfl rfl [0, 1, 2, 3, 4, 5, 6, 7, 8, 9, 10, 11, 12, 13, 14, 15] rfl (by decide) rfl rfl rfl rfl rfl rfl hl.1 (Nat.le_of_ble_eq_true rfl) dX8_actBlock_94 ⟨Nat.zero_le _, Nat.zero_le _⟩ (fun H locs hP hD hS => ?_)
    refine lv_goto (tgt := 211) hx hb dX8_actBlock_97 (by decide) ?_
    cases hM
    exact rt_v hx hb hr hlk hP hD hS rfl dX8_actBlock_211
  replace hM := if_f c7 hM
  by_cases c9 : a1 = 104
  · replace hM := if_t c9 hM
    refine lv_tableIn (tgt := 100) hx hb dX8_actBlock_1 (by rw [c9]; decide) (by rw [c9]; decide) (by rw [c9]; rfl) (by decide) ?_
    refine lv_aload_n hx hb dX8_actBlock_100 rfl (lv_at hl 0 rfl) ?_
    obtain ⟨r10, hcr10, hM⟩ := ob_use hM
    refine cl_V (As := []) (rest := []) (wM0 ad o_X r10.1 r10.2.1 r10.2.2 o_U o_O o_E o_Q o_V o_I ++ wMC cI ad o_C ++ wMX cI ad o_X ++ wMN cI ad r10.2.1 ++ wMT cI ad r10.2.2 ++ wMU cI ad o_U) [] ⟨hx, hb, hml, hown, hts⟩ (c_Model_simple l D cI sd ad o_U o_O o_E o_Q o_V o_I o_C o_X o_L o_N o_T r10 hcr10) (cwV2 hts q1273 mvX8_simple rfl rfl ⟨(Nat.le_of_ble_eq_true rfl), (Nat.le_of_ble_eq_true rfl)⟩) hK hE hA hP hD hS 0 (T := TX8) (N := 48) (ci := 8) rfl rfl [0, 1, 2, 3, 4, 5, 6, 7, 8, 9, 10, 11, 12, 13, 14] rfl (by decide) rfl rfl rfl rfl rfl rfl hl.1 (Nat.le_of_ble_eq_true rfl) dX8_actBlock_101 ⟨Nat.zero_le _, Nat.zero_le _⟩ (fun H locs hP hD hS => ?_)
    refine lv_goto (tgt := 211) hx hb dX8_actBlock_104 (by decide) ?_
    cases hM
    exact rt_v hx hb hr hlk hP hD hS rfl dX8_actBlock_211
  replace hM := if_f c9 hM
  by_cases c11 : a1 = 105
  · replace hM := if_t c11 hM
    refine lv_tableIn (tgt := 107) hx hb dX8_actBlock_1 (by rw [c11]; decide) (by rw [c11]; decide) (by rw [c11]; rfl) (by decide) ?_
    refine lv_aload_n hx hb dX8_actBlock_107 rfl (lv_at hl 0 rfl) ?_
    obtain ⟨r12, hcr12, hM⟩ := ob_use hM
    refine cl_V (As := []) (rest := []) (wM0 ad o_X r12.1 r12.2.1 r12.2.2 o_U o_O o_E o_Q o_V o_I ++ wMC cI ad o_C ++ wMX cI ad o_X ++ wMN cI ad r12.2.1 ++ wMT cI ad r12.2.2 ++ wMU cI ad o_U) [] ⟨hx, hb, hml, hown, hts⟩ (c_Model_title l D cI sd ad o_U o_O o_E o_Q o_V o_I o_C o_X o_L o_N o_T r12 hcr12) (cwV2 hts q1281 mvX8_title rfl rfl ⟨(Nat.le_of_ble_eq_true rfl), (Nat.le_of_ble_eq_true rfl)⟩) hK hE hA hP hD hS 0 (T := TX8) (N := 48) (ci := 8) rfl rfl [0, 1, 2, 3, 4, 5, 6, 7, 8, 9, 10, 11, 12, 13, 14] rfl (by decide) rfl rfl rfl rfl rfl rfl hl.1 (Nat.le_of_ble_eq_true rfl) dX8_actBlock_108 ⟨Nat.zero_le _, Nat.zero_le _⟩ (fun H locs hP hD hS => ?_)
    refine lv_goto (tgt := 211) hx hb dX8_actBlock_111 (by decide) ?_
    cases hM
    exact rt_v hx hb hr hlk hP hD hS rfl dX8_actBlock_211
  replace hM := if_f c11 hM
  by_cases c13 : a1 = 106
  · replace hM := if_t c13 hM
    refine lv_tableIn (tgt := 114) hx hb dX8_actBlock_1 (by rw [c13]; decide) (by rw [c13]; decide) (by rw [c13]; rfl) (by decide) ?_
    refine lv_aload_n hx hb dX8_actBlock_114 rfl (lv_at hl 0 rfl) ?_
    obtain ⟨r14, hcr14, hM⟩ := ob_use hM
    refine cl_V (As := []) (rest := []) (wM0 ad o_X o_L o_N r14.1 r14.2 o_O o_E o_Q o_V o_I ++ wMC cI ad o_C ++ wMX cI ad o_X ++ wMN cI ad o_N ++ wMT cI ad r14.1 ++ wMU cI ad r14.2) [] ⟨hx, hb, hml, hown, hts⟩ (c_Model_declarations l D cI sd ad o_C o_X o_N o_O o_E o_Q o_V o_I o_L o_T o_U r14 hcr14) (cwV2 hts q1285 mvX8_declarations rfl rfl ⟨(Nat.le_of_ble_eq_true rfl), (Nat.le_of_ble_eq_true rfl)⟩) hK hE hA hP hD hS 0 (T := TX8) (N := 48) (ci := 8) rfl rfl [0, 8, 9, 10, 11, 12, 13, 14, 15] rfl (by decide) rfl rfl rfl rfl rfl rfl hl.1 (Nat.le_of_ble_eq_true rfl) dX8_actBlock_115 ⟨Nat.zero_le _, Nat.zero_le _⟩ (fun H locs hP hD hS => ?_)
    refine lv_goto (tgt := 211) hx hb dX8_actBlock_118 (by decide) ?_
    cases hM
    exact rt_v hx hb hr hlk hP hD hS rfl dX8_actBlock_211
  replace hM := if_f c13 hM
  by_cases c15 : a1 = 107
  · replace hM := if_t c15 hM
    refine lv_tableIn (tgt := 121) hx hb dX8_actBlock_1 (by rw [c15]; decide) (by rw [c15]; decide) (by rw [c15]; rfl) (by decide) ?_
    refine lv_aload_n hx hb dX8_actBlock_121 rfl (lv_at hl 0 rfl) ?_
    refine lv_bipush (v := 111) hx hb dX8_actBlock_122 (by decide) ?_
    obtain ⟨r16, hcr16, hM⟩ := ob_use hM
    refine cl_V (As := [.int 111]) (rest := []) (wM0 ad o_X o_L o_N o_T r16 o_O o_E o_Q o_V o_I ++ wMC cI ad o_C ++ wMX cI ad o_X ++ wMN cI ad o_N ++ wMT cI ad o_T ++ wMU cI ad r16) [] ⟨hx, hb, hml, hown, hts⟩ (c_Model_push l D cI sd ad o_C o_X o_L o_N o_T o_O o_E o_Q o_V o_I o_U 111 r16 hcr16) (cwV2 hts q1147 mvX8_push rfl rfl ⟨(Nat.le_of_ble_eq_true rfl), (Nat.le_of_ble_eq_true rfl)⟩) hK hE hA hP hD hS 0 (T := TX8) (N := 48) (ci := 8) rfl rfl [0, 15] rfl (by decide) rfl rfl rfl rfl rfl rfl hl.1 (Nat.le_of_ble_eq_true rfl) dX8_actBlock_124 ⟨Nat.zero_le _, Nat.zero_le _⟩ (fun H locs hP hD hS => ?_)
    refine lv_aload_n hx hb dX8_actBlock_127 rfl (lv_at hl 0 rfl) ?_
    obtain ⟨r17, hcr17, hM⟩ := ob_use hM
    refine cl_V (As := []) (rest := []) (wM0 ad o_X r17.1 r17.2.1 r17.2.2 r16 o_O o_E o_Q o_V o_I ++ wMC cI ad o_C ++ wMX cI ad o_X ++ wMN cI ad r17.2.1 ++ wMT cI ad r17.2.2 ++ wMU cI ad r16) [] ⟨hx, hb, hml, hown, hts⟩ (c_Model_aName l D cI sd ad r16 o_O o_E o_Q o_V o_I o_C o_X o_L o_N o_T r17 hcr17) (cwV2 hts q1289 mvX8_aName rfl rfl ⟨(Nat.le_of_ble_eq_true rfl), (Nat.le_of_ble_eq_true rfl)⟩) hK hE hA hP hD hS 0 (T := TX8) (N := 48) (ci := 8) rfl rfl [0, 1, 2, 3, 4, 5, 6, 7, 8, 9, 10, 11, 12, 13, 14] rfl (by decide) rfl rfl rfl rfl rfl rfl hl.1 (Nat.le_of_ble_eq_true rfl) dX8_actBlock_128 ⟨Nat.zero_le _, Nat.zero_le _⟩ (fun H locs hP hD hS => ?_)
    refine lv_goto (tgt := 211) hx hb dX8_actBlock_131 (by decide) ?_
    cases hM
    exact rt_v hx hb hr hlk hP hD hS rfl dX8_actBlock_211
  replace hM := if_f c15 hM
  by_cases c18 : a1 = 108
  · replace hM := if_t c18 hM
    refine lv_tableIn (tgt := 134) hx hb dX8_actBlock_1 (by rw [c18]; decide) (by rw [c18]; decide) (by rw [c18]; rfl) (by decide) ?_
    refine lv_aload_n hx hb dX8_actBlock_134 rfl (lv_at hl 0 rfl) ?_
    refine lv_bipush (v := 10) hx hb dX8_actBlock_135 (by decide) ?_
    refine lv_iconst (v := (-1)) hx hb dX8_actBlock_137 (by decide) ?_
    refine lv_bipush (v := 112) hx hb dX8_actBlock_138 (by decide) ?_
    obtain ⟨r19, hcr19, hM⟩ := ob_use hM
    refine cl_V (As := [.int 10, .int (-1), .int 112]) (rest := []) (wM0 ad o_X r19.1 r19.2.1 o_T r19.2.2 o_O o_E o_Q o_V o_I ++ wMC cI ad o_C ++ wMX cI ad o_X ++ wMN cI ad r19.2.1 ++ wMT cI ad o_T ++ wMU cI ad r19.2.2) [] ⟨hx, hb, hml, hown, hts⟩ (c_Model_perhaps l D cI sd ad o_T o_O o_E o_Q o_V o_I o_C o_X o_L o_N o_U 10 (-1) 112 r19 hcr19) (cwV2 hts q1293 mvX8_perhaps rfl rfl ⟨(Nat.le_of_ble_eq_true rfl), (Nat.le_of_ble_eq_true rfl)⟩) hK hE hA hP hD hS 0 (T := TX8) (N := 48) (ci := 8) rfl rfl [0, 1, 2, 3, 4, 5, 6, 7, 15] rfl (by decide) rfl rfl rfl rfl rfl rfl hl.1 (Nat.le_of_ble_eq_true rfl) dX8_actBlock_140 ⟨Nat.zero_le _, Nat.zero_le _⟩ (fun H locs hP hD hS => ?_)
    refine lv_goto (tgt := 211) hx hb dX8_actBlock_143 (by decide) ?_
    cases hM
    exact rt_v hx hb hr hlk hP hD hS rfl dX8_actBlock_211
  replace hM := if_f c18 hM
  by_cases c20 : a1 = 109
  · replace hM := if_t c20 hM
    refine lv_tableIn (tgt := 146) hx hb dX8_actBlock_1 (by rw [c20]; decide) (by rw [c20]; decide) (by rw [c20]; rfl) (by decide) ?_
    refine lv_aload_n hx hb dX8_actBlock_146 rfl (lv_at hl 0 rfl) ?_
    obtain ⟨r21, hcr21, hM⟩ := ob_use hM
    refine cl_V (As := []) (rest := []) (wM0 ad o_X r21.1 r21.2.1 r21.2.2.1 r21.2.2.2 o_O o_E o_Q o_V o_I ++ wMC cI ad o_C ++ wMX cI ad o_X ++ wMN cI ad r21.2.1 ++ wMT cI ad r21.2.2.1 ++ wMU cI ad r21.2.2.2) [] ⟨hx, hb, hml, hown, hts⟩ (c_Model_type l D cI sd ad o_O o_E o_Q o_V o_I o_C o_X o_L o_N o_T o_U r21 hcr21) (cwV2 hts q1297 mvX8_type rfl rfl ⟨(Nat.le_of_ble_eq_true rfl), (Nat.le_of_ble_eq_true rfl)⟩) hK hE hA hP hD hS 0 (T := TX8) (N := 48) (ci := 8) rfl rfl [0, 1, 2, 3, 4, 5, 6, 7, 8, 9, 10, 11, 12, 13, 14, 15] rfl (by decide) rfl rfl rfl rfl rfl rfl hl.1 (Nat.le_of_ble_eq_true rfl) dX8_actBlock_147 ⟨Nat.zero_le _, Nat.zero_le _⟩ (fun H locs hP hD hS => ?_)
    refine lv_goto (tgt := 211) hx hb dX8_actBlock_150 (by decide) ?_
    cases hM
    exact rt_v hx hb hr hlk hP hD hS rfl dX8_actBlock_211
  replace hM := if_f c20 hM
  by_cases c22 : a1 = 110
  · replace hM := if_t c22 hM
    refine lv_tableIn (tgt := 153) hx hb dX8_actBlock_1 (by rw [c22]; decide) (by rw [c22]; decide) (by rw [c22]; rfl) (by decide) ?_
    refine lv_aload_n hx hb dX8_actBlock_153 rfl (lv_at hl 0 rfl) ?_
    refine lv_bipush (v := 50) hx hb dX8_actBlock_154 (by decide) ?_
    refine lv_iconst (v := (-1)) hx hb dX8_actBlock_156 (by decide) ?_
    refine lv_bipush (v := 113) hx hb dX8_actBlock_157 (by decide) ?_
    obtain ⟨r23, hcr23, hM⟩ := ob_use hM
    refine cl_V (As := [.int 50, .int (-1), .int 113]) (rest := []) (wM0 ad o_X r23.1 r23.2.1 o_T r23.2.2 o_O o_E o_Q o_V o_I ++ wMC cI ad o_C ++ wMX cI ad o_X ++ wMN cI ad r23.2.1 ++ wMT cI ad o_T ++ wMU cI ad r23.2.2) [] ⟨hx, hb, hml, hown, hts⟩ (c_Model_perhaps l D cI sd ad o_T o_O o_E o_Q o_V o_I o_C o_X o_L o_N o_U 50 (-1) 113 r23 hcr23) (cwV2 hts q1293 mvX8_perhaps rfl rfl ⟨(Nat.le_of_ble_eq_true rfl), (Nat.le_of_ble_eq_true rfl)⟩) hK hE hA hP hD hS 0 (T := TX8) (N := 48) (ci := 8) rfl rfl [0, 1, 2, 3, 4, 5, 6, 7, 15] rfl (by decide) rfl rfl rfl rfl rfl rfl hl.1 (Nat.le_of_ble_eq_true rfl) dX8_actBlock_159 ⟨Nat.zero_le _, Nat.zero_le _⟩ (fun H locs hP hD hS => ?_)
    refine lv_goto (tgt := 211) hx hb dX8_actBlock_162 (by decide) ?_
    cases hM
    exact rt_v hx hb hr hlk hP hD hS rfl dX8_actBlock_211
  replace hM := if_f c22 hM
  by_cases c24 : a1 = 111
  · replace hM := if_t c24 hM
    refine lv_tableIn (tgt := 165) hx hb dX8_actBlock_1 (by rw [c24]; decide) (by rw [c24]; decide) (by rw [c24]; rfl) (by decide) ?_
    refine lv_aload_n hx hb dX8_actBlock_165 rfl (lv_at hl 0 rfl) ?_
    refine lv_bipush (v := 59) hx hb dX8_actBlock_166 (by decide) ?_
    refine lv_iconst (v := (-1)) hx hb dX8_actBlock_168 (by decide) ?_
    refine lv_bipush (v := 107) hx hb dX8_actBlock_169 (by decide) ?_
    obtain ⟨r25, hcr25, hM⟩ := ob_use hM
    refine cl_V (As := [.int 59, .int (-1), .int 107]) (rest := []) (wM0 ad o_X r25.1 r25.2.1 o_T r25.2.2 o_O o_E o_Q o_V o_I ++ wMC cI ad o_C ++ wMX cI ad o_X ++ wMN cI ad r25.2.1 ++ wMT cI ad o_T ++ wMU cI ad r25.2.2) [] ⟨hx, hb, hml, hown, hts⟩ (c_Model_perhaps l D cI sd ad o_T o_O o_E o_Q o_V o_I o_C o_X o_L o_N o_U 59 (-1) 107 r25 hcr25) (cwV2 hts q1293 mvX8_perhaps rfl rfl ⟨(Nat.le_of_ble_eq_true rfl), (Nat.le_of_ble_eq_true rfl)⟩) hK hE hA hP hD hS 0 (T := TX8) (N := 48) (ci := 8) rfl rfl [0, 1, 2, 3, 4, 5, 6, 7, 15] rfl (by decide) rfl rfl rfl rfl rfl rfl hl.1 (Nat.le_of_ble_eq_true rfl) dX8_actBlock_171 ⟨Nat.zero_le _, Nat.zero_le _⟩ (fun H locs hP hD hS => ?_)
    refine lv_goto (tgt := 211) hx hb dX8_actBlock_174 (by decide) ?_
    cases hM
    exact rt_v hx hb hr hlk hP hD hS rfl dX8_actBlock_211
  replace hM := if_f c24 hM
  by_cases c26 : a1 = 112
  · replace hM := if_t c26 hM
    refine lv_tableIn (tgt := 177) hx hb dX8_actBlock_1 (by rw [c26]; decide) (by rw [c26]; decide) (by rw [c26]; rfl) (by decide) ?_
    refine lv_aload_n hx hb dX8_actBlock_177 rfl (lv_at hl 0 rfl) ?_
    refine lv_bipush (v := 7) hx hb dX8_actBlock_178 (by decide) ?_
    refine lv_aload_n hx hb dX8_actBlock_180 rfl (lv_at hl 0 rfl) ?_
    refine va_get (D := D) (ci := 8) (v := .int o_L.1) (C := RX8) (T := TX8) (N := 48) hx hb hts layX8 hown hK hP 0 rfl rfl 6 (by decide) (hts _ (inA q984)) (fun _ h9 => h9) rfl dX8_actBlock_181 ?_
    refine lv_aload_n hx hb dX8_actBlock_184 rfl (lv_at hl 0 rfl) ?_
    refine va_get (D := D) (ci := 8) (v := .int o_L.2.2.1) (C := RX8) (T := TX8) (N := 48) hx hb hts layX8 hown hK hP 0 rfl rfl 8 (by decide) (hts _ (inA q986)) (fun _ h9 => h9) rfl dX8_actBlock_185 ?_
    obtain ⟨r27, hcr27, hM⟩ := ob_use hM
    refine cl_V (As := [.int 7, .int o_L.1, .int o_L.2.2.1]) (rest := []) (wM0 ad o_X o_L o_N r27 o_U o_O o_E o_Q o_V o_I ++ wMC cI ad o_C ++ wMX cI ad o_X ++ wMN cI ad o_N ++ wMT cI ad r27 ++ wMU cI ad o_U) [] ⟨hx, hb, hml, hown, hts⟩ (c_Model_leaf l D cI sd ad o_C o_X o_L o_N o_U o_O o_E o_Q o_V o_I o_T 7 o_L.1 o_L.2.2.1 r27 hcr27) (cwV2 hts q1277 mvX8_leaf rfl rfl ⟨(Nat.le_of_ble_eq_true rfl), (Nat.le_of_ble_eq_true rfl)⟩) hK hE hA hP hD hS 0 (T := TX8) (N := 48) (ci := 8) rfl rfl [0, 8, 9, 10, 11, 12, 13, 14] rfl (by decide) rfl rfl rfl rfl rfl rfl hl.1 (Nat.le_of_ble_eq_true rfl) dX8_actBlock_188 ⟨Nat.zero_le _, Nat.zero_le _⟩ (fun H locs hP hD hS => ?_)
    refine lv_aload_n hx hb dX8_actBlock_191 rfl (lv_at hl 0 rfl) ?_
    refine lv_bipush (v := 82) hx hb dX8_actBlock_192 (by decide) ?_
    obtain ⟨r28, hcr28, hM⟩ := ob_use hM
    refine cl_V (As := [.int 82]) (rest := []) (wM0 ad o_X r28.1 r28.2 r27 o_U o_O o_E o_Q o_V o_I ++ wMC cI ad o_C ++ wMX cI ad o_X ++ wMN cI ad r28.2 ++ wMT cI ad r27 ++ wMU cI ad o_U) [] ⟨hx, hb, hml, hown, hts⟩ (c_Model_pass l D cI sd ad r27 o_U o_O o_E o_Q o_V o_I o_C o_X o_L o_N 82 r28 hcr28) (cwV2 hts q1229 mvX8_pass rfl rfl ⟨(Nat.le_of_ble_eq_true rfl), (Nat.le_of_ble_eq_true rfl)⟩) hK hE hA hP hD hS 0 (T := TX8) (N := 48) (ci := 8) rfl rfl [0, 1, 2, 3, 4, 5, 6, 7] rfl (by decide) rfl rfl rfl rfl rfl rfl hl.1 (Nat.le_of_ble_eq_true rfl) dX8_actBlock_194 ⟨Nat.zero_le _, Nat.zero_le _⟩ (fun H locs hP hD hS => ?_)
    refine lv_goto (tgt := 211) hx hb dX8_actBlock_197 (by decide) ?_
    cases hM
    exact rt_v hx hb hr hlk hP hD hS rfl dX8_actBlock_211
  replace hM := if_f c26 hM
  by_cases c29 : a1 = 113
  · replace hM := if_t c29 hM
    refine lv_tableIn (tgt := 200) hx hb dX8_actBlock_1 (by rw [c29]; decide) (by rw [c29]; decide) (by rw [c29]; rfl) (by decide) ?_
    refine lv_aload_n hx hb dX8_actBlock_200 rfl (lv_at hl 0 rfl) ?_
    obtain ⟨r30, hcr30, hM⟩ := ob_use hM
    refine cl_V (As := []) (rest := []) (wM0 ad o_X r30.1 r30.2.1 r30.2.2.1 r30.2.2.2.1 r30.2.2.2.2 o_E o_Q o_V o_I ++ wMC cI ad o_C ++ wMX cI ad o_X ++ wMN cI ad r30.2.1 ++ wMT cI ad r30.2.2.1 ++ wMU cI ad r30.2.2.2.1) [] ⟨hx, hb, hml, hown, hts⟩ (c_Model_constant l D cI sd ad o_E o_Q o_V o_I o_C o_X o_L o_N o_T o_U o_O r30 hcr30) (cwV2 hts q1301 mvX8_constant rfl rfl ⟨(Nat.le_of_ble_eq_true rfl), (Nat.le_of_ble_eq_true rfl)⟩) hK hE hA hP hD hS 0 (T := TX8) (N := 48) (ci := 8) rfl rfl [0, 1, 2, 3, 4, 5, 6, 7, 8, 9, 10, 11, 12, 13, 14, 15] rfl (by decide) rfl rfl rfl rfl rfl rfl hl.1 (Nat.le_of_ble_eq_true rfl) dX8_actBlock_201 ⟨Nat.zero_le _, Nat.zero_le _⟩ (fun H locs hP hD hS => ?_)
    refine lv_goto (tgt := 211) hx hb dX8_actBlock_204 (by decide) ?_
    cases hM
    exact rt_v hx hb hr hlk hP hD hS rfl dX8_actBlock_211
  replace hM := if_f c29 hM
  refine lv_tableOut (tgt := 207) hx hb dX8_actBlock_1 (by have := lv_neT c1 (show (100 : Int32).toInt = 100 by decide); have := lv_neT c3 (show (101 : Int32).toInt = 101 by decide); have := lv_neT c5 (show (102 : Int32).toInt = 102 by decide); have := lv_neT c7 (show (103 : Int32).toInt = 103 by decide); have := lv_neT c9 (show (104 : Int32).toInt = 104 by decide); have := lv_neT c11 (show (105 : Int32).toInt = 105 by decide); have := lv_neT c13 (show (106 : Int32).toInt = 106 by decide); have := lv_neT c15 (show (107 : Int32).toInt = 107 by decide); have := lv_neT c18 (show (108 : Int32).toInt = 108 by decide); have := lv_neT c20 (show (109 : Int32).toInt = 109 by decide); have := lv_neT c22 (show (110 : Int32).toInt = 110 by decide); have := lv_neT c24 (show (111 : Int32).toInt = 111 by decide); have := lv_neT c26 (show (112 : Int32).toInt = 112 by decide); have := lv_neT c29 (show (113 : Int32).toInt = 113 by decide); omega) (by decide) ?_
  refine lv_aload_n hx hb dX8_actBlock_207 rfl (lv_at hl 0 rfl) ?_
  obtain ⟨r31, hcr31, hM⟩ := ob_use hM
  refine cl_V (As := []) (rest := []) (wM0 ad o_X r31.1 r31.2.1 r31.2.2 o_U o_O o_E o_Q o_V o_I ++ wMC cI ad o_C ++ wMX cI ad o_X ++ wMN cI ad r31.2.1 ++ wMT cI ad r31.2.2 ++ wMU cI ad o_U) [] ⟨hx, hb, hml, hown, hts⟩ (c_Model_lessNumber l D cI sd ad o_U o_E o_Q o_V o_I o_C o_X o_L o_N o_T o_O r31 hcr31) (cwV2 hts q1305 mvX8_lessNumber rfl rfl ⟨(Nat.le_of_ble_eq_true rfl), (Nat.le_of_ble_eq_true rfl)⟩) hK hE hA hP hD hS 0 (T := TX8) (N := 48) (ci := 8) rfl rfl [0, 1, 2, 3, 4, 5, 6, 7, 8, 9, 10, 11, 12, 13, 14] rfl (by decide) rfl rfl rfl rfl rfl rfl hl.1 (Nat.le_of_ble_eq_true rfl) dX8_actBlock_208 ⟨Nat.zero_le _, Nat.zero_le _⟩ (fun H locs hP hD hS => ?_)
  cases hM
  exact rt_v hx hb hr hlk hP hD hS rfl dX8_actBlock_211

set_option maxHeartbeats 4000000 in
set_option maxRecDepth 100000 in
theorem c_Model_actStatement (l : Launch) (D : va_G) (cI : ClassId) (sd : Nat → Nat) (ad : Nat → Nat) (o_E : S_ME) (o_Q : S_MQ) (o_V : S_MV) (o_I : S_MI) (o_C : S_MC) (o_X : S_MX) (o_L : S_ML) (o_N : S_MN) (o_T : S_MT) (o_U : S_MU) (o_O : S_MO) (a1 : Int32) (res : S_ML × S_MN × S_MT × S_MU × S_MO) (hM : f_Model_actStatement o_C o_X o_L o_N o_T o_U o_O a1 = some res) : Ctr l D cI sd yX8_actStatement (wsM yX8_actStatement cX8_actStatement 2 (Option.none : Option Jvm.ClassFile.FieldType)) { frames := 9, cells := 0, slots := 0, locals := 195 } [.ref (ad 100), .int a1] (wM0 ad o_X o_L o_N o_T o_U o_O o_E o_Q o_V o_I ++ wMC cI ad o_C ++ wMX cI ad o_X ++ wMN cI ad o_N ++ wMT cI ad o_T ++ wMU cI ad o_U) (wM0 ad o_X res.1 res.2.1 res.2.2.1 res.2.2.2.1 res.2.2.2.2 o_E o_Q o_V o_I ++ wMC cI ad o_C ++ wMX cI ad o_X ++ wMN cI ad res.2.1 ++ wMT cI ad res.2.2.1 ++ wMU cI ad res.2.2.2.1) none := by
  refine Ctr.of (cc := cX8_actStatement) (maxL := 2) (own := RX8) (by decide +kernel) rfl rfl (Nat.le_of_ble_eq_true rfl) ?_
  intro p e s m below meth c A ls hx hb hr hml hown hts hlk hK hE hA hP hD hS hl
  have hl : lv_has ls 2 [(0, .ref (ad 100)), (1, .int a1)] := hl
  unfold f_Model_actStatement at hM
  refine lv_iload_n hx hb dX8_actStatement_0 rfl (lv_at hl 1 rfl) ?_
  by_cases c1 : a1 = 115
  · replace hM := if_t c1 hM
    refine lv_tableIn (tgt := 88) hx hb dX8_actStatement_1 (by rw [c1]; decide) (by rw [c1]; decide) (by rw [c1]; rfl) (by decide) ?_
    refine lv_aload_n hx hb dX8_actStatement_88 rfl (lv_at hl 0 rfl) ?_
    obtain ⟨r2, hcr2, hM⟩ := ob_use hM
    refine cl_V (As := []) (rest := []) (wM0 ad o_X r2.1 r2.2.1 r2.2.2.1 r2.2.2.2.1 r2.2.2.2.2 o_E o_Q o_V o_I ++ wMC cI ad o_C ++ wMX cI ad o_X ++ wMN cI ad r2.2.1 ++ wMT cI ad r2.2.2.1 ++ wMU cI ad r2.2.2.2.1) [] ⟨hx, hb, hml, hown, hts⟩ (c_Model_statements l D cI sd ad o_E o_Q o_V o_I o_C o_X o_L o_N o_T o_U o_O r2 hcr2) (cwV2 hts q1313 mvX8_statements rfl rfl ⟨(Nat.le_of_ble_eq_true rfl), (Nat.le_of_ble_eq_true rfl)⟩) hK hE hA hP hD hS 0 (T := TX8) (N := 48) (ci := 8) rfl rfl [0, 1, 2, 3, 4, 5, 6, 7, 8, 9, 10, 11, 12, 13, 14, 15] rfl (by decide) rfl rfl rfl rfl rfl rfl hl.1 (Nat.le_of_ble_eq_true rfl) dX8_actStatement_89 ⟨Nat.zero_le _, Nat.zero_le _⟩ (fun H locs hP hD hS => ?_)
    refine lv_goto (tgt := 285) hx hb dX8_actStatement_92 (by decide) ?_
    cases hM
    exact rt_v hx hb hr hlk hP hD hS rfl dX8_actStatement_285
  replace hM := if_f c1 hM
  by_cases c3 : a1 = 116
  · replace hM := if_t c3 hM
    refine lv_tableIn (tgt := 95) hx hb dX8_actStatement_1 (by rw [c3]; decide) (by rw [c3]; decide) (by rw [c3]; rfl) (by decide) ?_
    refine lv_aload_n hx hb dX8_actStatement_95 rfl (lv_at hl 0 rfl) ?_
    obtain ⟨r4, hcr4, hM⟩ := ob_use hM
    refine cl_V (As := []) (rest := []) (wM0 ad o_X r4.1 r4.2.1 r4.2.2.1 r4.2.2.2.1 r4.2.2.2.2 o_E o_Q o_V o_I ++ wMC cI ad o_C ++ wMX cI ad o_X ++ wMN cI ad r4.2.1 ++ wMT cI ad r4.2.2.1 ++ wMU cI ad r4.2.2.2.1) [] ⟨hx, hb, hml, hown, hts⟩ (c_Model_behindName l D cI sd ad o_E o_Q o_V o_I o_C o_X o_L o_N o_T o_U o_O r4 hcr4) (cwV2 hts q1333 mvX8_behindName rfl rfl ⟨(Nat.le_of_ble_eq_true rfl), (Nat.le_of_ble_eq_true rfl)⟩) hK hE hA hP hD hS 0 (T := TX8) (N := 48) (ci := 8) rfl rfl [0, 1, 2, 3, 4, 5, 6, 7, 8, 9, 10, 11, 12, 13, 14, 15] rfl (by decide) rfl rfl rfl rfl rfl rfl hl.1 (Nat.le_of_ble_eq_true rfl) dX8_actStatement_96 ⟨Nat.zero_le _, Nat.zero_le _⟩ (fun H locs hP hD hS => ?_)
    refine lv_goto (tgt := 285) hx hb dX8_actStatement_99 (by decide) ?_
    cases hM
    exact rt_v hx hb hr hlk hP hD hS rfl dX8_actStatement_285
  replace hM := if_f c3 hM
  by_cases c5 : a1 = 117
  · replace hM := if_t c5 hM
    refine lv_tableIn (tgt := 102) hx hb dX8_actStatement_1 (by rw [c5]; decide) (by rw [c5]; decide) (by rw [c5]; rfl) (by decide) ?_
    refine lv_aload_n hx hb dX8_actStatement_102 rfl (lv_at hl 0 rfl) ?_
    obtain ⟨r6, hcr6, hM⟩ := ob_use hM
    refine cl_V (As := []) (rest := []) (wM0 ad o_X r6.1 r6.2.1 r6.2.2.1 r6.2.2.2 o_O o_E o_Q o_V o_I ++ wMC cI ad o_C ++ wMX cI ad o_X ++ wMN cI ad r6.2.1 ++ wMT cI ad r6.2.2.1 ++ wMU cI ad r6.2.2.2) [] ⟨hx, hb, hml, hown, hts⟩ (c_Model_ifRest l D cI sd ad o_O o_E o_Q o_V o_I o_C o_X o_L o_N o_T o_U r6 hcr6) (cwV2 hts q1337 mvX8_ifRest rfl rfl ⟨(Nat.le_of_ble_eq_true rfl), (Nat.le_of_ble_eq_true rfl)⟩) hK hE hA hP hD hS 0 (T := TX8) (N := 48) (ci := 8) rfl rfl [0, 1, 2, 3, 4, 5, 6, 7, 8, 9, 10, 11, 12, 13, 14, 15] rfl (by decide) rfl rfl rfl rfl rfl rfl hl.1 (Nat.le_of_ble_eq_true rfl) dX8_actStatement_103 ⟨Nat.zero_le _, Nat.zero_le _⟩ (fun H locs hP hD hS => ?_)
    refine lv_goto (tgt := 285) hx hb dX8_actStatement_106 (by decide) ?_
    cases hM
    exact rt_v hx hb hr hlk hP hD hS rfl dX8_actStatement_285
  replace hM := if_f c5 hM
  by_cases c7 : a1 = 118
  · replace hM := if_t c7 hM
    refine lv_tableIn (tgt := 109) hx hb dX8_actStatement_1 (by rw [c7]; decide) (by rw [c7]; decide) (by rw [c7]; rfl) (by decide) ?_
    refine lv_aload_n hx hb dX8_actStatement_109 rfl (lv_at hl 0 rfl) ?_
    refine lv_dup hx hb dX8_actStatement_110 rfl ?_
    refine va_get (D := D) (ci := 8) (v := .int o_O.1) (C := RX8) (T := TX8) (N := 48) hx hb hts layX8 hown hK hP 0 rfl rfl 27 (by decide) (hts _ (inA q1005)) (fun _ h9 => h9) rfl dX8_actStatement_111 ?_
    refine lv_iconst (v := 1) hx hb dX8_actStatement_114 (by decide) ?_
    refine lv_isub hx hb dX8_actStatement_115 ?_
    refine va_put (D := D) (ci := 8) (v := .int (o_O.1 - 1)) (ty := .int) (C := RX8) (T := TX8) (N := 48) hx hb hts layX8 tyX8 tyX8_ok nmX8 hown hK hP hD hS 0 rfl rfl 27 (by decide) (hts _ (inA q1005)) (fun _ h9 => h9) rfl (by decide +kernel) rfl rfl (Nat.le_of_ble_eq_true rfl) dX8_actStatement_116 (fun H locs hP hD hS => ?_)
    have hP : va_P D vwCl (wM0 ad o_X o_L o_N o_T o_U (o_O.1 - 1, o_O.2) o_E o_Q o_V o_I ++ wMC cI ad o_C ++ wMX cI ad o_X ++ wMN cI ad o_N ++ wMT cI ad o_T ++ wMU cI ad o_U) H := hP
    have hD : va_D A (wM0 ad o_X o_L o_N o_T o_U (o_O.1 - 1, o_O.2) o_E o_Q o_V o_I ++ wMC cI ad o_C ++ wMX cI ad o_X ++ wMN cI ad o_N ++ wMT cI ad o_T ++ wMU cI ad o_U) := hD
    refine lv_aload_n hx hb dX8_actStatement_119 rfl (lv_at hl 0 rfl) ?_
    obtain ⟨r8, hcr8, hM⟩ := ob_use hM
    refine cl_V (As := []) (rest := []) (wM0 ad o_X o_L o_N r8 o_U (o_O.1 - 1, o_O.2) o_E o_Q o_V o_I ++ wMC cI ad o_C ++ wMX cI ad o_X ++ wMN cI ad o_N ++ wMT cI ad r8 ++ wMU cI ad o_U) [] ⟨hx, hb, hml, hown, hts⟩ (c_Model_up l D cI sd ad o_C o_X o_L o_N o_U (o_O.1 - 1, o_O.2) o_E o_Q o_V o_I o_T r8 hcr8) (cwV2 hts q1261 mvX8_up rfl rfl ⟨(Nat.le_of_ble_eq_true rfl), (Nat.le_of_ble_eq_true rfl)⟩) hK hE hA hP hD hS 0 (T := TX8) (N := 48) (ci := 8) rfl rfl [0, 8, 9, 10, 11, 12, 13, 14] rfl (by decide) rfl rfl rfl rfl rfl rfl hl.1 (Nat.le_of_ble_eq_true rfl) dX8_actStatement_120 ⟨Nat.zero_le _, Nat.zero_le _⟩ (fun H locs hP hD hS => ?_)
    refine lv_goto (tgt := 285) hx hb dX8_actStatement_123 (by decide) ?_
    cases hM
    exact rt_v hx hb hr hlk hP hD hS rfl dX8_actStatement_285
  replace hM := if_f c7 hM
  by_cases c9 : a1 = 119
  · replace hM := if_t c9 hM
    refine lv_tableIn (tgt := 126) hx hb dX8_actStatement_1 (by rw [c9]; decide) (by rw [c9]; decide) (by rw [c9]; rfl) (by decide) ?_
    refine lv_aload_n hx hb dX8_actStatement_126 rfl (lv_at hl 0 rfl) ?_
    refine lv_bipush (v := 17) hx hb dX8_actStatement_127 (by decide) ?_
    obtain ⟨r10, hcr10, hM⟩ := ob_use hM
    refine cl_V (As := [.int 17]) (rest := []) (wM0 ad o_X r10.1 r10.2.1 r10.2.2.1 r10.2.2.2 o_O o_E o_Q o_V o_I ++ wMC cI ad o_C ++ wMX cI ad o_X ++ wMN cI ad r10.2.1 ++ wMT cI ad r10.2.2.1 ++ wMU cI ad r10.2.2.2) [] ⟨hx, hb, hml, hown, hts⟩ (c_Model_bodyBehind l D cI sd ad o_O o_E o_Q o_V o_I o_C o_X o_L o_N o_T o_U 17 r10 hcr10) (cwV2 hts q1345 mvX8_bodyBehind rfl rfl ⟨(Nat.le_of_ble_eq_true rfl), (Nat.le_of_ble_eq_true rfl)⟩) hK hE hA hP hD hS 0 (T := TX8) (N := 48) (ci := 8) rfl rfl [0, 1, 2, 3, 4, 5, 6, 7, 8, 9, 10, 11, 12, 13, 14, 15] rfl (by decide) rfl rfl rfl rfl rfl rfl hl.1 (Nat.le_of_ble_eq_true rfl) dX8_actStatement_129 ⟨Nat.zero_le _, Nat.zero_le _⟩ (fun H locs hP hD hS => ?_)
    refine lv_goto (tgt := 285) hx hb dX8_actStatement_132 (by decide) ?_
    cases hM
    exact rt_v hx hb hr hlk hP hD hS rfl dX8_actStatement_285
  replace hM := if_f c9 hM
  by_cases c11 : a1 = 120
  · replace hM := if_t c11 hM
    refine lv_tableIn (tgt := 135) hx hb dX8_actStatement_1 (by rw [c11]; decide) (by rw [c11]; decide) (by rw [c11]; rfl) (by decide) ?_
    refine lv_aload_n hx hb dX8_actStatement_135 rfl (lv_at hl 0 rfl) ?_
    obtain ⟨r12, hcr12, hM⟩ := ob_use hM
    refine cl_V (As := []) (rest := []) (wM0 ad o_X r12.1 r12.2.1 r12.2.2.1 r12.2.2.2 o_O o_E o_Q o_V o_I ++ wMC cI ad o_C ++ wMX cI ad o_X ++ wMN cI ad r12.2.1 ++ wMT cI ad r12.2.2.1 ++ wMU cI ad r12.2.2.2) [] ⟨hx, hb, hml, hown, hts⟩ (c_Model_elseBody l D cI sd ad o_O o_E o_Q o_V o_I o_C o_X o_L o_N o_T o_U r12 hcr12) (cwV2 hts q1341 mvX8_elseBody rfl rfl ⟨(Nat.le_of_ble_eq_true rfl), (Nat.le_of_ble_eq_true rfl)⟩) hK hE hA hP hD hS 0 (T := TX8) (N := 48) (ci := 8) rfl rfl [0, 1, 2, 3, 4, 5, 6, 7, 8, 9, 10, 11, 12, 13, 14, 15] rfl (by decide) rfl rfl rfl rfl rfl rfl hl.1 (Nat.le_of_ble_eq_true rfl) dX8_actStatement_136 ⟨Nat.zero_le _, Nat.zero_le _⟩ (fun H locs hP hD hS => ?_)
    refine lv_goto (tgt := 285) hx hb dX8_actStatement_139 (by decide) ?_
    cases hM
    exact rt_v hx hb hr hlk hP hD hS rfl dX8_actStatement_285
  replace hM := if_f c11 hM
  by_cases c13 : a1 = 121
  · replace hM := if_t c13 hM
    refine lv_tableIn (tgt := 142) hx hb dX8_actStatement_1 (by rw [c13]; decide) (by rw [c13]; decide) (by rw [c13]; rfl) (by decide) ?_
    refine lv_aload_n hx hb dX8_actStatement_142 rfl (lv_at hl 0 rfl) ?_
    obtain ⟨r14, hcr14, hM⟩ := ob_use hM
    refine cl_V (As := []) (rest := []) (wM0 ad o_X o_L o_N r14.1 r14.2 o_O o_E o_Q o_V o_I ++ wMC cI ad o_C ++ wMX cI ad o_X ++ wMN cI ad o_N ++ wMT cI ad r14.1 ++ wMU cI ad r14.2) [] ⟨hx, hb, hml, hown, hts⟩ (c_Model_choices l D cI sd ad o_C o_X o_N o_O o_E o_Q o_V o_I o_L o_T o_U r14 hcr14) (cwV2 hts q1349 mvX8_choices rfl rfl ⟨(Nat.le_of_ble_eq_true rfl), (Nat.le_of_ble_eq_true rfl)⟩) hK hE hA hP hD hS 0 (T := TX8) (N := 48) (ci := 8) rfl rfl [0, 8, 9, 10, 11, 12, 13, 14, 15] rfl (by decide) rfl rfl rfl rfl rfl rfl hl.1 (Nat.le_of_ble_eq_true rfl) dX8_actStatement_143 ⟨Nat.zero_le _, Nat.zero_le _⟩ (fun H locs hP hD hS => ?_)
    refine lv_goto (tgt := 285) hx hb dX8_actStatement_146 (by decide) ?_
    cases hM
    exact rt_v hx hb hr hlk hP hD hS rfl dX8_actStatement_285
  replace hM := if_f c13 hM
  by_cases c15 : a1 = 122
  · replace hM := if_t c15 hM
    refine lv_tableIn (tgt := 149) hx hb dX8_actStatement_1 (by rw [c15]; decide) (by rw [c15]; decide) (by rw [c15]; rfl) (by decide) ?_
    refine lv_aload_n hx hb dX8_actStatement_149 rfl (lv_at hl 0 rfl) ?_
    refine lv_bipush (v := 61) hx hb dX8_actStatement_150 (by decide) ?_
    obtain ⟨r16, hcr16, hM⟩ := ob_use hM
    refine cl_V (As := [.int 61]) (rest := []) (wM0 ad o_X r16.1 r16.2.1 r16.2.2.1 r16.2.2.2 o_O o_E o_Q o_V o_I ++ wMC cI ad o_C ++ wMX cI ad o_X ++ wMN cI ad r16.2.1 ++ wMT cI ad r16.2.2.1 ++ wMU cI ad r16.2.2.2) [] ⟨hx, hb, hml, hown, hts⟩ (c_Model_bodyBehind l D cI sd ad o_O o_E o_Q o_V o_I o_C o_X o_L o_N o_T o_U 61 r16 hcr16) (cwV2 hts q1345 mvX8_bodyBehind rfl rfl ⟨(Nat.le_of_ble_eq_true rfl), (Nat.le_of_ble_eq_true rfl)⟩) hK hE hA hP hD hS 0 (T := TX8) (N := 48) (ci := 8) rfl rfl [0, 1, 2, 3, 4, 5, 6, 7, 8, 9, 10, 11, 12, 13, 14, 15] rfl (by decide) rfl rfl rfl rfl rfl rfl hl.1 (Nat.le_of_ble_eq_true rfl) dX8_actStatement_152 ⟨Nat.zero_le _, Nat.zero_le _⟩ (fun H locs hP hD hS => ?_)
    refine lv_goto (tgt := 285) hx hb dX8_actStatement_155 (by decide) ?_
    cases hM
    exact rt_v hx hb hr hlk hP hD hS rfl dX8_actStatement_285
  replace hM := if_f c15 hM
  by_cases c17 : a1 = 123
  · replace hM := if_t c17 hM
    refine lv_tableIn (tgt := 158) hx hb dX8_actStatement_1 (by rw [c17]; decide) (by rw [c17]; decide) (by rw [c17]; rfl) (by decide) ?_
    refine lv_aload_n hx hb dX8_actStatement_158 rfl (lv_at hl 0 rfl) ?_
    obtain ⟨r18, hcr18, hM⟩ := ob_use hM
    refine cl_V (As := []) (rest := []) (wM0 ad o_X o_L o_N r18.1 r18.2 o_O o_E o_Q o_V o_I ++ wMC cI ad o_C ++ wMX cI ad o_X ++ wMN cI ad o_N ++ wMT cI ad r18.1 ++ wMU cI ad r18.2) [] ⟨hx, hb, hml, hown, hts⟩ (c_Model_range l D cI sd ad o_C o_X o_N o_O o_E o_Q o_V o_I o_L o_T o_U r18 hcr18) (cwV2 hts q1357 mvX8_range rfl rfl ⟨(Nat.le_of_ble_eq_true rfl), (Nat.le_of_ble_eq_true rfl)⟩) hK hE hA hP hD hS 0 (T := TX8) (N := 48) (ci := 8) rfl rfl [0, 8, 9, 10, 11, 12, 13, 14, 15] rfl (by decide) rfl rfl rfl rfl rfl rfl hl.1 (Nat.le_of_ble_eq_true rfl) dX8_actStatement_159 ⟨Nat.zero_le _, Nat.zero_le _⟩ (fun H locs hP hD hS => ?_)
    refine lv_goto (tgt := 285) hx hb dX8_actStatement_162 (by decide) ?_
    cases hM
    exact rt_v hx hb hr hlk hP hD hS rfl dX8_actStatement_285
  replace hM := if_f c17 hM
  by_cases c19 : a1 = 124
  · replace hM := if_t c19 hM
    refine lv_tableIn (tgt := 165) hx hb dX8_actStatement_1 (by rw [c19]; decide) (by rw [c19]; decide) (by rw [c19]; rfl) (by decide) ?_
    refine lv_aload_n hx hb dX8_actStatement_165 rfl (lv_at hl 0 rfl) ?_
    refine lv_bipush (v := 59) hx hb dX8_actStatement_166 (by decide) ?_
    refine lv_bipush (v := 124) hx hb dX8_actStatement_168 (by decide) ?_
    refine lv_bipush (v := 123) hx hb dX8_actStatement_170 (by decide) ?_
    obtain ⟨r20, hcr20, hM⟩ := ob_use hM
    refine cl_V (As := [.int 59, .int 124, .int 123]) (rest := []) (wM0 ad o_X r20.1 r20.2.1 o_T r20.2.2 o_O o_E o_Q o_V o_I ++ wMC cI ad o_C ++ wMX cI ad o_X ++ wMN cI ad r20.2.1 ++ wMT cI ad o_T ++ wMU cI ad r20.2.2) [] ⟨hx, hb, hml, hown, hts⟩ (c_Model_perhaps l D cI sd ad o_T o_O o_E o_Q o_V o_I o_C o_X o_L o_N o_U 59 124 123 r20 hcr20) (cwV2 hts q1293 mvX8_perhaps rfl rfl ⟨(Nat.le_of_ble_eq_true rfl), (Nat.le_of_ble_eq_true rfl)⟩) hK hE hA hP hD hS 0 (T := TX8) (N := 48) (ci := 8) rfl rfl [0, 1, 2, 3, 4, 5, 6, 7, 15] rfl (by decide) rfl rfl rfl rfl rfl rfl hl.1 (Nat.le_of_ble_eq_true rfl) dX8_actStatement_172 ⟨Nat.zero_le _, Nat.zero_le _⟩ (fun H locs hP hD hS => ?_)
    refine lv_goto (tgt := 285) hx hb dX8_actStatement_175 (by decide) ?_
    cases hM
    exact rt_v hx hb hr hlk hP hD hS rfl dX8_actStatement_285
  replace hM := if_f c19 hM
  by_cases c21 : a1 = 125
  · replace hM := if_t c21 hM
    refine lv_tableIn (tgt := 178) hx hb dX8_actStatement_1 (by rw [c21]; decide) (by rw [c21]; decide) (by rw [c21]; rfl) (by decide) ?_
    refine lv_aload_n hx hb dX8_actStatement_178 rfl (lv_at hl 0 rfl) ?_
    refine lv_bipush (v := 51) hx hb dX8_actStatement_179 (by decide) ?_
    refine lv_iconst (v := (-1)) hx hb dX8_actStatement_181 (by decide) ?_
    refine lv_bipush (v := 113) hx hb dX8_actStatement_182 (by decide) ?_
    obtain ⟨r22, hcr22, hM⟩ := ob_use hM
    refine cl_V (As := [.int 51, .int (-1), .int 113]) (rest := []) (wM0 ad o_X r22.1 r22.2.1 o_T r22.2.2 o_O o_E o_Q o_V o_I ++ wMC cI ad o_C ++ wMX cI ad o_X ++ wMN cI ad r22.2.1 ++ wMT cI ad o_T ++ wMU cI ad r22.2.2) [] ⟨hx, hb, hml, hown, hts⟩ (c_Model_perhaps l D cI sd ad o_T o_O o_E o_Q o_V o_I o_C o_X o_L o_N o_U 51 (-1) 113 r22 hcr22) (cwV2 hts q1293 mvX8_perhaps rfl rfl ⟨(Nat.le_of_ble_eq_true rfl), (Nat.le_of_ble_eq_true rfl)⟩) hK hE hA hP hD hS 0 (T := TX8) (N := 48) (ci := 8) rfl rfl [0, 1, 2, 3, 4, 5, 6, 7, 15] rfl (by decide) rfl rfl rfl rfl rfl rfl hl.1 (Nat.le_of_ble_eq_true rfl) dX8_actStatement_184 ⟨Nat.zero_le _, Nat.zero_le _⟩ (fun H locs hP hD hS => ?_)
    refine lv_goto (tgt := 285) hx hb dX8_actStatement_187 (by decide) ?_
    cases hM
    exact rt_v hx hb hr hlk hP hD hS rfl dX8_actStatement_285
  replace hM := if_f c21 hM
  by_cases c23 : a1 = 126
  · replace hM := if_t c23 hM
    refine lv_tableIn (tgt := 190) hx hb dX8_actStatement_1 (by rw [c23]; decide) (by rw [c23]; decide) (by rw [c23]; rfl) (by decide) ?_
    refine lv_aload_n hx hb dX8_actStatement_190 rfl (lv_at hl 0 rfl) ?_
    refine lv_bipush (v := 26) hx hb dX8_actStatement_191 (by decide) ?_
    obtain ⟨r24, hcr24, hM⟩ := ob_use hM
    refine cl_V (As := [.int 26]) (rest := []) (wM0 ad o_X r24.1 r24.2.1 r24.2.2.1 r24.2.2.2 o_O o_E o_Q o_V o_I ++ wMC cI ad o_C ++ wMX cI ad o_X ++ wMN cI ad r24.2.1 ++ wMT cI ad r24.2.2.1 ++ wMU cI ad r24.2.2.2) [] ⟨hx, hb, hml, hown, hts⟩ (c_Model_bodyBehind l D cI sd ad o_O o_E o_Q o_V o_I o_C o_X o_L o_N o_T o_U 26 r24 hcr24) (cwV2 hts q1345 mvX8_bodyBehind rfl rfl ⟨(Nat.le_of_ble_eq_true rfl), (Nat.le_of_ble_eq_true rfl)⟩) hK hE hA hP hD hS 0 (T := TX8) (N := 48) (ci := 8) rfl rfl [0, 1, 2, 3, 4, 5, 6, 7, 8, 9, 10, 11, 12, 13, 14, 15] rfl (by decide) rfl rfl rfl rfl rfl rfl hl.1 (Nat.le_of_ble_eq_true rfl) dX8_actStatement_193 ⟨Nat.zero_le _, Nat.zero_le _⟩ (fun H locs hP hD hS => ?_)
    refine lv_goto (tgt := 285) hx hb dX8_actStatement_196 (by decide) ?_
    cases hM
    exact rt_v hx hb hr hlk hP hD hS rfl dX8_actStatement_285
  replace hM := if_f c23 hM
  by_cases c25 : a1 = 127
  · replace hM := if_t c25 hM
    refine lv_tableIn (tgt := 199) hx hb dX8_actStatement_1 (by rw [c25]; decide) (by rw [c25]; decide) (by rw [c25]; rfl) (by decide) ?_
    refine lv_aload_n hx hb dX8_actStatement_199 rfl (lv_at hl 0 rfl) ?_
    refine lv_bipush (v := 25) hx hb dX8_actStatement_200 (by decide) ?_
    refine lv_iconst (v := (-1)) hx hb dX8_actStatement_202 (by decide) ?_
    refine lv_bipush (v := 113) hx hb dX8_actStatement_203 (by decide) ?_
    obtain ⟨r26, hcr26, hM⟩ := ob_use hM
    refine cl_V (As := [.int 25, .int (-1), .int 113]) (rest := []) (wM0 ad o_X r26.1 r26.2.1 o_T r26.2.2 o_O o_E o_Q o_V o_I ++ wMC cI ad o_C ++ wMX cI ad o_X ++ wMN cI ad r26.2.1 ++ wMT cI ad o_T ++ wMU cI ad r26.2.2) [] ⟨hx, hb, hml, hown, hts⟩ (c_Model_perhaps l D cI sd ad o_T o_O o_E o_Q o_V o_I o_C o_X o_L o_N o_U 25 (-1) 113 r26 hcr26) (cwV2 hts q1293 mvX8_perhaps rfl rfl ⟨(Nat.le_of_ble_eq_true rfl), (Nat.le_of_ble_eq_true rfl)⟩) hK hE hA hP hD hS 0 (T := TX8) (N := 48) (ci := 8) rfl rfl [0, 1, 2, 3, 4, 5, 6, 7, 15] rfl (by decide) rfl rfl rfl rfl rfl rfl hl.1 (Nat.le_of_ble_eq_true rfl) dX8_actStatement_205 ⟨Nat.zero_le _, Nat.zero_le _⟩ (fun H locs hP hD hS => ?_)
    refine lv_goto (tgt := 285) hx hb dX8_actStatement_208 (by decide) ?_
    cases hM
    exact rt_v hx hb hr hlk hP hD hS rfl dX8_actStatement_285
  replace hM := if_f c25 hM
  by_cases c27 : a1 = 128
  · replace hM := if_t c27 hM
    refine lv_tableIn (tgt := 211) hx hb dX8_actStatement_1 (by rw [c27]; decide) (by rw [c27]; decide) (by rw [c27]; rfl) (by decide) ?_
    refine lv_aload_n hx hb dX8_actStatement_211 rfl (lv_at hl 0 rfl) ?_
    obtain ⟨r28, hcr28, hM⟩ := ob_use hM
    refine cl_V (As := []) (rest := []) (wM0 ad o_X r28.1 r28.2.1 r28.2.2 o_U o_O o_E o_Q o_V o_I ++ wMC cI ad o_C ++ wMX cI ad o_X ++ wMN cI ad r28.2.1 ++ wMT cI ad r28.2.2 ++ wMU cI ad o_U) [] ⟨hx, hb, hml, hown, hts⟩ (c_Model_assign l D cI sd ad o_U o_O o_E o_Q o_V o_I o_C o_X o_L o_N o_T r28 hcr28) (cwV2 hts q1361 mvX8_assign rfl rfl ⟨(Nat.le_of_ble_eq_true rfl), (Nat.le_of_ble_eq_true rfl)⟩) hK hE hA hP hD hS 0 (T := TX8) (N := 48) (ci := 8) rfl rfl [0, 1, 2, 3, 4, 5, 6, 7, 8, 9, 10, 11, 12, 13, 14] rfl (by decide) rfl rfl rfl rfl rfl rfl hl.1 (Nat.le_of_ble_eq_true rfl) dX8_actStatement_212 ⟨Nat.zero_le _, Nat.zero_le _⟩ (fun H locs hP hD hS => ?_)
    refine lv_goto (tgt := 285) hx hb dX8_actStatement_215 (by decide) ?_
    cases hM
    exact rt_v hx hb hr hlk hP hD hS rfl dX8_actStatement_285
  replace hM := if_f c27 hM
  by_cases c29 : a1 = 129
  · replace hM := if_t c29 hM
    refine lv_tableIn (tgt := 218) hx hb dX8_actStatement_1 (by rw [c29]; decide) (by rw [c29]; decide) (by rw [c29]; rfl) (by decide) ?_
    refine lv_aload_n hx hb dX8_actStatement_218 rfl (lv_at hl 0 rfl) ?_
    obtain ⟨r30, hcr30, hM⟩ := ob_use hM
    refine cl_V (As := []) (rest := []) (wM0 ad o_X r30.1 r30.2.1 r30.2.2.1 o_U r30.2.2.2 o_E o_Q o_V o_I ++ wMC cI ad o_C ++ wMX cI ad o_X ++ wMN cI ad r30.2.1 ++ wMT cI ad r30.2.2.1 ++ wMU cI ad o_U) [] ⟨hx, hb, hml, hown, hts⟩ (c_Model_indexEnd l D cI sd ad o_U o_E o_Q o_V o_I o_C o_X o_L o_N o_T o_O r30 hcr30) (cwV2 hts q1365 mvX8_indexEnd rfl rfl ⟨(Nat.le_of_ble_eq_true rfl), (Nat.le_of_ble_eq_true rfl)⟩) hK hE hA hP hD hS 0 (T := TX8) (N := 48) (ci := 8) rfl rfl [0, 1, 2, 3, 4, 5, 6, 7, 8, 9, 10, 11, 12, 13, 14] rfl (by decide) rfl rfl rfl rfl rfl rfl hl.1 (Nat.le_of_ble_eq_true rfl) dX8_actStatement_219 ⟨Nat.zero_le _, Nat.zero_le _⟩ (fun H locs hP hD hS => ?_)
    refine lv_goto (tgt := 285) hx hb dX8_actStatement_222 (by decide) ?_
    cases hM
    exact rt_v hx hb hr hlk hP hD hS rfl dX8_actStatement_285
  replace hM := if_f c29 hM
  by_cases c31 : a1 = 130
  · replace hM := if_t c31 hM
    refine lv_tableIn (tgt := 225) hx hb dX8_actStatement_1 (by rw [c31]; decide) (by rw [c31]; decide) (by rw [c31]; rfl) (by decide) ?_
    refine lv_aload_n hx hb dX8_actStatement_225 rfl (lv_at hl 0 rfl) ?_
    refine lv_dup hx hb dX8_actStatement_226 rfl ?_
    refine va_get (D := D) (ci := 8) (v := .int o_O.1) (C := RX8) (T := TX8) (N := 48) hx hb hts layX8 hown hK hP 0 rfl rfl 27 (by decide) (hts _ (inA q1005)) (fun _ h9 => h9) rfl dX8_actStatement_227 ?_
    refine lv_iconst (v := 1) hx hb dX8_actStatement_230 (by decide) ?_
    refine lv_isub hx hb dX8_actStatement_231 ?_
    refine va_put (D := D) (ci := 8) (v := .int (o_O.1 - 1)) (ty := .int) (C := RX8) (T := TX8) (N := 48) hx hb hts layX8 tyX8 tyX8_ok nmX8 hown hK hP hD hS 0 rfl rfl 27 (by decide) (hts _ (inA q1005)) (fun _ h9 => h9) rfl (by decide +kernel) rfl rfl (Nat.le_of_ble_eq_true rfl) dX8_actStatement_232 (fun H locs hP hD hS => ?_)
    have hP : va_P D vwCl (wM0 ad o_X o_L o_N o_T o_U (o_O.1 - 1, o_O.2) o_E o_Q o_V o_I ++ wMC cI ad o_C ++ wMX cI ad o_X ++ wMN cI ad o_N ++ wMT cI ad o_T ++ wMU cI ad o_U) H := hP
    have hD : va_D A (wM0 ad o_X o_L o_N o_T o_U (o_O.1 - 1, o_O.2) o_E o_Q o_V o_I ++ wMC cI ad o_C ++ wMX cI ad o_X ++ wMN cI ad o_N ++ wMT cI ad o_T ++ wMU cI ad o_U) := hD
    refine lv_aload_n hx hb dX8_actStatement_235 rfl (lv_at hl 0 rfl) ?_
    refine lv_bipush (v := 56) hx hb dX8_actStatement_236 (by decide) ?_
    obtain ⟨r32, hcr32, hM⟩ := ob_use hM
    refine cl_V (As := [.int 56]) (rest := []) (wM0 ad o_X r32.1 r32.2 o_T o_U (o_O.1 - 1, o_O.2) o_E o_Q o_V o_I ++ wMC cI ad o_C ++ wMX cI ad o_X ++ wMN cI ad r32.2 ++ wMT cI ad o_T ++ wMU cI ad o_U) [] ⟨hx, hb, hml, hown, hts⟩ (c_Model_pass l D cI sd ad o_T o_U (o_O.1 - 1, o_O.2) o_E o_Q o_V o_I o_C o_X o_L o_N 56 r32 hcr32) (cwV2 hts q1229 mvX8_pass rfl rfl ⟨(Nat.le_of_ble_eq_true rfl), (Nat.le_of_ble_eq_true rfl)⟩) hK hE hA hP hD hS 0 (T := TX8) (N := 48) (ci := 8) rfl rfl [0, 1, 2, 3, 4, 5, 6, 7] rfl (by decide) rfl rfl rfl rfl rfl rfl hl.1 (Nat.le_of_ble_eq_true rfl) dX8_actStatement_238 ⟨Nat.zero_le _, Nat.zero_le _⟩ (fun H locs hP hD hS => ?_)
    refine lv_goto (tgt := 285) hx hb dX8_actStatement_241 (by decide) ?_
    cases hM
    exact rt_v hx hb hr hlk hP hD hS rfl dX8_actStatement_285
  replace hM := if_f c31 hM
  by_cases c33 : a1 = 131
  · replace hM := if_t c33 hM
    refine lv_tableIn (tgt := 244) hx hb dX8_actStatement_1 (by rw [c33]; decide) (by rw [c33]; decide) (by rw [c33]; rfl) (by decide) ?_
    refine lv_aload_n hx hb dX8_actStatement_244 rfl (lv_at hl 0 rfl) ?_
    refine va_get (D := D) (ci := 8) (v := .int o_L.2.1) (C := RX8) (T := TX8) (N := 48) hx hb hts layX8 hown hK hP 0 rfl rfl 7 (by decide) (hts _ (inA q985)) (fun _ h9 => h9) rfl dX8_actStatement_245 ?_
    refine lv_bipush (v := 80) hx hb dX8_actStatement_248 (by decide) ?_
    refine lv_icmp_ne (tgt := 285) hx hb dX8_actStatement_250 (by decide) (fun c34 => ?_) (fun c34 => ?_)
    · replace hM := if_f c34 hM
      cases hM
      exact rt_v hx hb hr hlk hP hD hS rfl dX8_actStatement_285
    · replace hM := if_t c34 hM
      refine lv_aload_n hx hb dX8_actStatement_253 rfl (lv_at hl 0 rfl) ?_
      refine lv_sipush (v := 133) hx hb dX8_actStatement_254 (by decide) ?_
      refine lv_sipush (v := 132) hx hb dX8_actStatement_257 (by decide) ?_
      obtain ⟨r35, hcr35, hM⟩ := ob_use hM
      refine cl_V (As := [.int 133, .int 132]) (rest := []) (wM0 ad o_X o_L o_N o_T r35 o_O o_E o_Q o_V o_I ++ wMC cI ad o_C ++ wMX cI ad o_X ++ wMN cI ad o_N ++ wMT cI ad o_T ++ wMU cI ad r35) [] ⟨hx, hb, hml, hown, hts⟩ (c_Model_push2 l D cI sd ad o_C o_X o_L o_N o_T o_O o_E o_Q o_V o_I o_U 133 132 r35 hcr35) (cwV2 hts q1257 mvX8_push2 rfl rfl ⟨(Nat.le_of_ble_eq_true rfl), (Nat.le_of_ble_eq_true rfl)⟩) hK hE hA hP hD hS 0 (T := TX8) (N := 48) (ci := 8) rfl rfl [0, 15] rfl (by decide) rfl rfl rfl rfl rfl rfl hl.1 (Nat.le_of_ble_eq_true rfl) dX8_actStatement_260 ⟨Nat.zero_le _, Nat.zero_le _⟩ (fun H locs hP hD hS => ?_)
      refine lv_goto (tgt := 285) hx hb dX8_actStatement_263 (by decide) ?_
      cases hM
      exact rt_v hx hb hr hlk hP hD hS rfl dX8_actStatement_285
  replace hM := if_f c33 hM
  by_cases c36 : a1 = 132
  · replace hM := if_t c36 hM
    refine lv_tableIn (tgt := 266) hx hb dX8_actStatement_1 (by rw [c36]; decide) (by rw [c36]; decide) (by rw [c36]; rfl) (by decide) ?_
    refine lv_aload_n hx hb dX8_actStatement_266 rfl (lv_at hl 0 rfl) ?_
    obtain ⟨r37, hcr37, hM⟩ := ob_use hM
    refine cl_V (As := []) (rest := []) (wM0 ad o_X r37.1 r37.2.1 r37.2.2.1 r37.2.2.2 o_O o_E o_Q o_V o_I ++ wMC cI ad o_C ++ wMX cI ad o_X ++ wMN cI ad r37.2.1 ++ wMT cI ad r37.2.2.1 ++ wMU cI ad r37.2.2.2) [] ⟨hx, hb, hml, hown, hts⟩ (c_Model_parameter l D cI sd ad o_O o_E o_Q o_V o_I o_C o_X o_L o_N o_T o_U r37 hcr37) (cwV2 hts q1369 mvX8_parameter rfl rfl ⟨(Nat.le_of_ble_eq_true rfl), (Nat.le_of_ble_eq_true rfl)⟩) hK hE hA hP hD hS 0 (T := TX8) (N := 48) (ci := 8) rfl rfl [0, 1, 2, 3, 4, 5, 6, 7, 8, 9, 10, 11, 12, 13, 14, 15] rfl (by decide) rfl rfl rfl rfl rfl rfl hl.1 (Nat.le_of_ble_eq_true rfl) dX8_actStatement_267 ⟨Nat.zero_le _, Nat.zero_le _⟩ (fun H locs hP hD hS => ?_)
    refine lv_goto (tgt := 285) hx hb dX8_actStatement_270 (by decide) ?_
    cases hM
    exact rt_v hx hb hr hlk hP hD hS rfl dX8_actStatement_285
  replace hM := if_f c36 hM
  refine lv_tableOut (tgt := 273) hx hb dX8_actStatement_1 (by have := lv_neT c1 (show (115 : Int32).toInt = 115 by decide); have := lv_neT c3 (show (116 : Int32).toInt = 116 by decide); have := lv_neT c5 (show (117 : Int32).toInt = 117 by decide); have := lv_neT c7 (show (118 : Int32).toInt = 118 by decide); have := lv_neT c9 (show (119 : Int32).toInt = 119 by decide); have := lv_neT c11 (show (120 : Int32).toInt = 120 by decide); have := lv_neT c13 (show (121 : Int32).toInt = 121 by decide); have := lv_neT c15 (show (122 : Int32).toInt = 122 by decide); have := lv_neT c17 (show (123 : Int32).toInt = 123 by decide); have := lv_neT c19 (show (124 : Int32).toInt = 124 by decide); have := lv_neT c21 (show (125 : Int32).toInt = 125 by decide); have := lv_neT c23 (show (126 : Int32).toInt = 126 by decide); have := lv_neT c25 (show (127 : Int32).toInt = 127 by decide); have := lv_neT c27 (show (128 : Int32).toInt = 128 by decide); have := lv_neT c29 (show (129 : Int32).toInt = 129 by decide); have := lv_neT c31 (show (130 : Int32).toInt = 130 by decide); have := lv_neT c33 (show (131 : Int32).toInt = 131 by decide); have := lv_neT c36 (show (132 : Int32).toInt = 132 by decide); omega) (by decide) ?_
  refine lv_aload_n hx hb dX8_actStatement_273 rfl (lv_at hl 0 rfl) ?_
  refine lv_bipush (v := 59) hx hb dX8_actStatement_274 (by decide) ?_
  refine lv_sipush (v := 133) hx hb dX8_actStatement_276 (by decide) ?_
  refine lv_sipush (v := 132) hx hb dX8_actStatement_279 (by decide) ?_
  obtain ⟨r38, hcr38, hM⟩ := ob_use hM
  refine cl_V (As := [.int 59, .int 133, .int 132]) (rest := []) (wM0 ad o_X r38.1 r38.2.1 o_T r38.2.2 o_O o_E o_Q o_V o_I ++ wMC cI ad o_C ++ wMX cI ad o_X ++ wMN cI ad r38.2.1 ++ wMT cI ad o_T ++ wMU cI ad r38.2.2) [] ⟨hx, hb, hml, hown, hts⟩ (c_Model_perhaps l D cI sd ad o_T o_O o_E o_Q o_V o_I o_C o_X o_L o_N o_U 59 133 132 r38 hcr38) (cwV2 hts q1293 mvX8_perhaps rfl rfl ⟨(Nat.le_of_ble_eq_true rfl), (Nat.le_of_ble_eq_true rfl)⟩) hK hE hA hP hD hS 0 (T := TX8) (N := 48) (ci := 8) rfl rfl [0, 1, 2, 3, 4, 5, 6, 7, 15] rfl (by decide) rfl rfl rfl rfl rfl rfl hl.1 (Nat.le_of_ble_eq_true rfl) dX8_actStatement_282 ⟨Nat.zero_le _, Nat.zero_le _⟩ (fun H locs hP hD hS => ?_)
  cases hM
  exact rt_v hx hb hr hlk hP hD hS rfl dX8_actStatement_285

set_option maxHeartbeats 4000000 in
set_option maxRecDepth 100000 in
theorem c_Model_pushArgument (l : Launch) (D : va_G) (cI : ClassId) (sd : Nat → Nat) (ad : Nat → Nat) (o_C : S_MC) (o_X : S_MX) (o_L : S_ML) (o_N : S_MN) (o_T : S_MT) (o_O : S_MO) (o_E : S_ME) (o_Q : S_MQ) (o_V : S_MV) (o_I : S_MI) (o_U : S_MU) (res : S_MU) (hM : f_Model_pushArgument o_U = some res) : Ctr l D cI sd yX8_pushArgument (wsM yX8_pushArgument cX8_pushArgument 1 (Option.none : Option Jvm.ClassFile.FieldType)) { frames := 2, cells := 0, slots := 0, locals := 43 } [.ref (ad 100)] (wM0 ad o_X o_L o_N o_T o_U o_O o_E o_Q o_V o_I ++ wMU cI ad o_U) (wM0 ad o_X o_L o_N o_T res o_O o_E o_Q o_V o_I ++ wMU cI ad res) none := by
  refine Ctr.of (cc := cX8_pushArgument) (maxL := 1) (own := RX8) (by decide +kernel) rfl rfl (Nat.le_of_ble_eq_true rfl) ?_
  intro p e s m below meth c A ls hx hb hr hml hown hts hlk hK hE hA hP hD hS hl
  have hl : lv_has ls 1 [(0, .ref (ad 100))] := hl
  unfold f_Model_pushArgument at hM
  refine lv_aload_n hx hb dX8_pushArgument_0 rfl (lv_at hl 0 rfl) ?_
  refine lv_sipush (v := 144) hx hb dX8_pushArgument_1 (by decide) ?_
  refine lv_sipush (v := 145) hx hb dX8_pushArgument_4 (by decide) ?_
  obtain ⟨r1, hcr1, hM⟩ := ob_use hM
  refine cl_V (As := [.int 144, .int 145]) (rest := []) (wM0 ad o_X o_L o_N o_T r1 o_O o_E o_Q o_V o_I ++ wMU cI ad r1) [] ⟨hx, hb, hml, hown, hts⟩ (c_Model_push2 l D cI sd ad o_C o_X o_L o_N o_T o_O o_E o_Q o_V o_I o_U 144 145 r1 hcr1) (cwV2 hts q1257 mvX8_push2 rfl rfl ⟨(Nat.le_of_ble_eq_true rfl), (Nat.le_of_ble_eq_true rfl)⟩) hK hE hA hP hD hS 0 (T := TX8) (N := 48) (ci := 8) rfl rfl [0, 1] rfl (by decide) rfl rfl rfl rfl rfl rfl hl.1 (Nat.le_of_ble_eq_true rfl) dX8_pushArgument_7 ⟨Nat.zero_le _, Nat.zero_le _⟩ (fun H locs hP hD hS => ?_)
  refine lv_aload_n hx hb dX8_pushArgument_10 rfl (lv_at hl 0 rfl) ?_
  refine lv_sipush (v := 134) hx hb dX8_pushArgument_11 (by decide) ?_
  obtain ⟨r2, hcr2, hM⟩ := ob_use hM
  refine cl_V (As := [.int 134]) (rest := []) (wM0 ad o_X o_L o_N o_T r2 o_O o_E o_Q o_V o_I ++ wMU cI ad r2) [] ⟨hx, hb, hml, hown, hts⟩ (c_Model_push l D cI sd ad o_C o_X o_L o_N o_T o_O o_E o_Q o_V o_I r1 134 r2 hcr2) (cwV2 hts q1147 mvX8_push rfl rfl ⟨(Nat.le_of_ble_eq_true rfl), (Nat.le_of_ble_eq_true rfl)⟩) hK hE hA hP hD hS 0 (T := TX8) (N := 48) (ci := 8) rfl rfl [0, 1] rfl (by decide) rfl rfl rfl rfl rfl rfl hl.1 (Nat.le_of_ble_eq_true rfl) dX8_pushArgument_14 ⟨Nat.zero_le _, Nat.zero_le _⟩ (fun H locs hP hD hS => ?_)
  cases hM
  exact rt_v hx hb hr hlk hP hD hS rfl dX8_pushArgument_17

set_option maxHeartbeats 4000000 in
set_option maxRecDepth 100000 in
theorem c_Model_actOperand (l : Launch) (D : va_G) (cI : ClassId) (sd : Nat → Nat) (ad : Nat → Nat) (o_Q : S_MQ) (o_V : S_MV) (o_I : S_MI) (o_C : S_MC) (o_X : S_MX) (o_L : S_ML) (o_N : S_MN) (o_T : S_MT) (o_U : S_MU) (o_O : S_MO) (o_E : S_ME) (a1 : Int32) (res : S_ML × S_MN × S_MT × S_MU × S_MO × S_ME) (hM : f_Model_actOperand o_C o_X o_L o_N o_T o_U o_O o_E a1 = some res) : Ctr l D cI sd yX8_actOperand (wsM yX8_actOperand cX8_actOperand 2 (Option.none : Option Jvm.ClassFile.FieldType)) { frames := 7, cells := 0, slots := 0, locals := 153 } [.ref (ad 100), .int a1] (wM0 ad o_X o_L o_N o_T o_U o_O o_E o_Q o_V o_I ++ wMC cI ad o_C ++ wMX cI ad o_X ++ wMN cI ad o_N ++ wMT cI ad o_T ++ wMU cI ad o_U ++ wME cI ad o_E) (wM0 ad o_X res.1 res.2.1 res.2.2.1 res.2.2.2.1 res.2.2.2.2.1 res.2.2.2.2.2 o_Q o_V o_I ++ wMC cI ad o_C ++ wMX cI ad o_X ++ wMN cI ad res.2.1 ++ wMT cI ad res.2.2.1 ++ wMU cI ad res.2.2.2.1 ++ wME cI ad res.2.2.2.2.2) none := by
  refine Ctr.of (cc := cX8_actOperand) (maxL := 2) (own := RX8) (by decide +kernel) rfl rfl (Nat.le_of_ble_eq_true rfl) ?_
  intro p e s m below meth c A ls hx hb hr hml hown hts hlk hK hE hA hP hD hS hl
  have hl : lv_has ls 2 [(0, .ref (ad 100)), (1, .int a1)] := hl
  unfold f_Model_actOperand at hM
  refine lv_iload_n hx hb dX8_actOperand_0 rfl (lv_at hl 1 rfl) ?_
  by_cases c1 : a1 = 134
  · replace hM := if_t c1 hM
    refine lv_tableIn (tgt := 60) hx hb dX8_actOperand_1 (by rw [c1]; decide) (by rw [c1]; decide) (by rw [c1]; rfl) (by decide) ?_
    refine lv_aload_n hx hb dX8_actOperand_60 rfl (lv_at hl 0 rfl) ?_
    obtain ⟨r2, hcr2, hM⟩ := ob_use hM
    refine cl_V (As := []) (rest := []) (wM0 ad o_X o_L o_N o_T r2.1 r2.2.1 r2.2.2 o_Q o_V o_I ++ wMC cI ad o_C ++ wMX cI ad o_X ++ wMN cI ad o_N ++ wMT cI ad o_T ++ wMU cI ad r2.1 ++ wME cI ad r2.2.2) [] ⟨hx, hb, hml, hown, hts⟩ (c_Model_expression l D cI sd ad o_C o_X o_L o_N o_T o_Q o_V o_I o_U o_O o_E r2 hcr2) (cwV2 hts q1377 mvX8_expression rfl rfl ⟨(Nat.le_of_ble_eq_true rfl), (Nat.le_of_ble_eq_true rfl)⟩) hK hE hA hP hD hS 0 (T := TX8) (N := 48) (ci := 8) rfl rfl [0, 15, 16, 17, 18, 19] rfl (by decide) rfl rfl rfl rfl rfl rfl hl.1 (Nat.le_of_ble_eq_true rfl) dX8_actOperand_61 ⟨Nat.zero_le _, Nat.zero_le _⟩ (fun H locs hP hD hS => ?_)
    refine lv_goto (tgt := 169) hx hb dX8_actOperand_64 (by decide) ?_
    cases hM
    exact rt_v hx hb hr hlk hP hD hS rfl dX8_actOperand_169
  replace hM := if_f c1 hM
  by_cases c3 : a1 = 135
  · replace hM := if_t c3 hM
    refine lv_tableIn (tgt := 67) hx hb dX8_actOperand_1 (by rw [c3]; decide) (by rw [c3]; decide) (by rw [c3]; rfl) (by decide) ?_
    refine lv_aload_n hx hb dX8_actOperand_67 rfl (lv_at hl 0 rfl) ?_
    obtain ⟨r4, hcr4, hM⟩ := ob_use hM
    refine cl_V (As := []) (rest := []) (wM0 ad o_X r4.1 r4.2.1 r4.2.2.1 r4.2.2.2.1 r4.2.2.2.2.1 r4.2.2.2.2.2 o_Q o_V o_I ++ wMC cI ad o_C ++ wMX cI ad o_X ++ wMN cI ad r4.2.1 ++ wMT cI ad r4.2.2.1 ++ wMU cI ad r4.2.2.2.1 ++ wME cI ad r4.2.2.2.2.2) [] ⟨hx, hb, hml, hown, hts⟩ (c_Model_anOperand l D cI sd ad o_Q o_V o_I o_C o_X o_L o_N o_T o_U o_O o_E r4 hcr4) (cwV2 hts q1385 mvX8_anOperand rfl rfl ⟨(Nat.le_of_ble_eq_true rfl), (Nat.le_of_ble_eq_true rfl)⟩) hK hE hA hP hD hS 0 (T := TX8) (N := 48) (ci := 8) rfl rfl [0, 1, 2, 3, 4, 5, 6, 7, 8, 9, 10, 11, 12, 13, 14, 15, 16, 17, 18, 19] rfl (by decide) rfl rfl rfl rfl rfl rfl hl.1 (Nat.le_of_ble_eq_true rfl) dX8_actOperand_68 ⟨Nat.zero_le _, Nat.zero_le _⟩ (fun H locs hP hD hS => ?_)
    refine lv_goto (tgt := 169) hx hb dX8_actOperand_71 (by decide) ?_
    cases hM
    exact rt_v hx hb hr hlk hP hD hS rfl dX8_actOperand_169
  replace hM := if_f c3 hM
  by_cases c5 : a1 = 136
  · replace hM := if_t c5 hM
    refine lv_tableIn (tgt := 74) hx hb dX8_actOperand_1 (by rw [c5]; decide) (by rw [c5]; decide) (by rw [c5]; rfl) (by decide) ?_
    refine lv_aload_n hx hb dX8_actOperand_74 rfl (lv_at hl 0 rfl) ?_
    obtain ⟨r6, hcr6, hM⟩ := ob_use hM
    refine cl_V (As := []) (rest := []) (wM0 ad o_X r6.1 r6.2.1 r6.2.2.1 r6.2.2.2.1 r6.2.2.2.2.1 r6.2.2.2.2.2 o_Q o_V o_I ++ wMC cI ad o_C ++ wMX cI ad o_X ++ wMN cI ad r6.2.1 ++ wMT cI ad r6.2.2.1 ++ wMU cI ad r6.2.2.2.1 ++ wME cI ad r6.2.2.2.2.2) [] ⟨hx, hb, hml, hown, hts⟩ (c_Model_signRest l D cI sd ad o_Q o_V o_I o_C o_X o_L o_N o_T o_U o_O o_E r6 hcr6) (cwV2 hts q1405 mvX8_signRest rfl rfl ⟨(Nat.le_of_ble_eq_true rfl), (Nat.le_of_ble_eq_true rfl)⟩) hK hE hA hP hD hS 0 (T := TX8) (N := 48) (ci := 8) rfl rfl [0, 1, 2, 3, 4, 5, 6, 7, 8, 9, 10, 11, 12, 13, 14, 15, 16, 17, 18, 19] rfl (by decide) rfl rfl rfl rfl rfl rfl hl.1 (Nat.le_of_ble_eq_true rfl) dX8_actOperand_75 ⟨Nat.zero_le _, Nat.zero_le _⟩ (fun H locs hP hD hS => ?_)
    refine lv_goto (tgt := 169) hx hb dX8_actOperand_78 (by decide) ?_
    cases hM
    exact rt_v hx hb hr hlk hP hD hS rfl dX8_actOperand_169
  replace hM := if_f c5 hM
  by_cases c7 : a1 = 137
  · replace hM := if_t c7 hM
    refine lv_tableIn (tgt := 81) hx hb dX8_actOperand_1 (by rw [c7]; decide) (by rw [c7]; decide) (by rw [c7]; rfl) (by decide) ?_
    refine lv_aload_n hx hb dX8_actOperand_81 rfl (lv_at hl 0 rfl) ?_
    refine lv_aload_n hx hb dX8_actOperand_82 rfl (lv_at hl 0 rfl) ?_
    obtain ⟨r8, hcr8, hM⟩ := ob_use hM
    refine cl_V (As := []) (rest := [.ref (ad 100)]) (wM0 ad o_X o_L o_N o_T o_U o_O r8.2 o_Q o_V o_I ++ wMC cI ad o_C ++ wMX cI ad o_X ++ wMN cI ad o_N ++ wMT cI ad o_T ++ wMU cI ad o_U ++ wME cI ad r8.2) (.int r8.1 :: [.ref (ad 100)]) ⟨hx, hb, hml, hown, hts⟩ (c_Model_takeOperand l D cI sd ad o_C o_X o_L o_N o_T o_U o_O o_Q o_V o_I o_E r8 hcr8) (cwV2 hts q1401 mvX8_takeOperand rfl rfl ⟨(Nat.le_of_ble_eq_true rfl), (Nat.le_of_ble_eq_true rfl)⟩) hK hE hA hP hD hS 0 (T := TX8) (N := 48) (ci := 8) rfl rfl [0, 16, 17, 18, 19] rfl (by decide) rfl rfl rfl rfl rfl rfl hl.1 (Nat.le_of_ble_eq_true rfl) dX8_actOperand_83 ⟨Nat.zero_le _, Nat.zero_le _⟩ (fun H locs hP hD hS => ?_)
    refine lv_aload_n hx hb dX8_actOperand_86 rfl (lv_at hl 0 rfl) ?_
    refine va_get (D := D) (ci := 8) (v := .int o_T.2.1) (C := RX8) (T := TX8) (N := 48) hx hb hts layX8 hown hK hP 0 rfl rfl 24 (by decide) (hts _ (inA q1002)) (fun _ h9 => h9) rfl dX8_actOperand_87 ?_
    obtain ⟨r9, hcr9, hM⟩ := ob_use hM
    refine cl_V (As := [.int r8.1, .int o_T.2.1]) (rest := []) (wM0 ad o_X o_L o_N r9 o_U o_O r8.2 o_Q o_V o_I ++ wMC cI ad o_C ++ wMX cI ad o_X ++ wMN cI ad o_N ++ wMT cI ad r9 ++ wMU cI ad o_U ++ wME cI ad r8.2) [] ⟨hx, hb, hml, hown, hts⟩ (c_Model_hang l D cI sd ad o_C o_X o_L o_N o_U o_O r8.2 o_Q o_V o_I o_T r8.1 o_T.2.1 r9 hcr9) (cwV2 hts q1249 mvX8_hang rfl rfl ⟨(Nat.le_of_ble_eq_true rfl), (Nat.le_of_ble_eq_true rfl)⟩) hK hE hA hP hD hS 0 (T := TX8) (N := 48) (ci := 8) rfl rfl [0, 8, 9, 10, 11, 12, 13, 14] rfl (by decide) rfl rfl rfl rfl rfl rfl hl.1 (Nat.le_of_ble_eq_true rfl) dX8_actOperand_90 ⟨Nat.zero_le _, Nat.zero_le _⟩ (fun H locs hP hD hS => ?_)
    refine lv_goto (tgt := 169) hx hb dX8_actOperand_93 (by decide) ?_
    cases hM
    exact rt_v hx hb hr hlk hP hD hS rfl dX8_actOperand_169
  replace hM := if_f c7 hM
  by_cases c10 : a1 = 138
  · replace hM := if_t c10 hM
    refine lv_tableIn (tgt := 96) hx hb dX8_actOperand_1 (by rw [c10]; decide) (by rw [c10]; decide) (by rw [c10]; rfl) (by decide) ?_
    refine lv_aload_n hx hb dX8_actOperand_96 rfl (lv_at hl 0 rfl) ?_
    obtain ⟨r11, hcr11, hM⟩ := ob_use hM
    refine cl_V (As := []) (rest := []) (wM0 ad o_X r11.1 r11.2.1 r11.2.2.1 o_U r11.2.2.2.1 r11.2.2.2.2 o_Q o_V o_I ++ wMC cI ad o_C ++ wMX cI ad o_X ++ wMN cI ad r11.2.1 ++ wMT cI ad r11.2.2.1 ++ wMU cI ad o_U ++ wME cI ad r11.2.2.2.2) [] ⟨hx, hb, hml, hown, hts⟩ (c_Model_groupEnd l D cI sd ad o_U o_Q o_V o_I o_C o_X o_L o_N o_T o_O o_E r11 hcr11) (cwV2 hts q1416 mvX8_groupEnd rfl rfl ⟨(Nat.le_of_ble_eq_true rfl), (Nat.le_of_ble_eq_true rfl)⟩) hK hE hA hP hD hS 0 (T := TX8) (N := 48) (ci := 8) rfl rfl [0, 1, 2, 3, 4, 5, 6, 7, 8, 9, 10, 11, 12, 13, 14, 16, 17, 18, 19] rfl (by decide) rfl rfl rfl rfl rfl rfl hl.1 (Nat.le_of_ble_eq_true rfl) dX8_actOperand_97 ⟨Nat.zero_le _, Nat.zero_le _⟩ (fun H locs hP hD hS => ?_)
    refine lv_goto (tgt := 169) hx hb dX8_actOperand_100 (by decide) ?_
    cases hM
    exact rt_v hx hb hr hlk hP hD hS rfl dX8_actOperand_169
  replace hM := if_f c10 hM
  by_cases c12 : a1 = 139
  · replace hM := if_t c12 hM
    refine lv_tableIn (tgt := 103) hx hb dX8_actOperand_1 (by rw [c12]; decide) (by rw [c12]; decide) (by rw [c12]; rfl) (by decide) ?_
    refine lv_aload_n hx hb dX8_actOperand_103 rfl (lv_at hl 0 rfl) ?_
    obtain ⟨r13, hcr13, hM⟩ := ob_use hM
    refine cl_V (As := []) (rest := []) (wM0 ad o_X r13.1 r13.2.1 r13.2.2.1 r13.2.2.2.1 r13.2.2.2.2.1 r13.2.2.2.2.2 o_Q o_V o_I ++ wMC cI ad o_C ++ wMX cI ad o_X ++ wMN cI ad r13.2.1 ++ wMT cI ad r13.2.2.1 ++ wMU cI ad r13.2.2.2.1 ++ wME cI ad r13.2.2.2.2.2) [] ⟨hx, hb, hml, hown, hts⟩ (c_Model_behindOperand l D cI sd ad o_Q o_V o_I o_C o_X o_L o_N o_T o_U o_O o_E r13 hcr13) (cwV2 hts q1420 mvX8_behindOperand rfl rfl ⟨(Nat.le_of_ble_eq_true rfl), (Nat.le_of_ble_eq_true rfl)⟩) hK hE hA hP hD hS 0 (T := TX8) (N := 48) (ci := 8) rfl rfl [0, 1, 2, 3, 4, 5, 6, 7, 8, 9, 10, 11, 12, 13, 14, 15, 16, 17, 18, 19] rfl (by decide) rfl rfl rfl rfl rfl rfl hl.1 (Nat.le_of_ble_eq_true rfl) dX8_actOperand_104 ⟨Nat.zero_le _, Nat.zero_le _⟩ (fun H locs hP hD hS => ?_)
    refine lv_goto (tgt := 169) hx hb dX8_actOperand_107 (by decide) ?_
    cases hM
    exact rt_v hx hb hr hlk hP hD hS rfl dX8_actOperand_169
  replace hM := if_f c12 hM
  by_cases c14 : a1 = 140
  · replace hM := if_t c14 hM
    refine lv_tableIn (tgt := 110) hx hb dX8_actOperand_1 (by rw [c14]; decide) (by rw [c14]; decide) (by rw [c14]; rfl) (by decide) ?_
    refine lv_aload_n hx hb dX8_actOperand_110 rfl (lv_at hl 0 rfl) ?_
    obtain ⟨r15, hcr15, hM⟩ := ob_use hM
    refine cl_V (As := []) (rest := []) (wM0 ad o_X r15.1 r15.2.1 r15.2.2.1 o_U r15.2.2.2.1 r15.2.2.2.2 o_Q o_V o_I ++ wMC cI ad o_C ++ wMX cI ad o_X ++ wMN cI ad r15.2.1 ++ wMT cI ad r15.2.2.1 ++ wMU cI ad o_U ++ wME cI ad r15.2.2.2.2) [] ⟨hx, hb, hml, hown, hts⟩ (c_Model_elementEnd l D cI sd ad o_U o_Q o_V o_I o_C o_X o_L o_N o_T o_O o_E r15 hcr15) (cwV2 hts q1428 mvX8_elementEnd rfl rfl ⟨(Nat.le_of_ble_eq_true rfl), (Nat.le_of_ble_eq_true rfl)⟩) hK hE hA hP hD hS 0 (T := TX8) (N := 48) (ci := 8) rfl rfl [0, 1, 2, 3, 4, 5, 6, 7, 8, 9, 10, 11, 12, 13, 14, 16, 17, 18, 19] rfl (by decide) rfl rfl rfl rfl rfl rfl hl.1 (Nat.le_of_ble_eq_true rfl) dX8_actOperand_111 ⟨Nat.zero_le _, Nat.zero_le _⟩ (fun H locs hP hD hS => ?_)
    refine lv_goto (tgt := 169) hx hb dX8_actOperand_114 (by decide) ?_
    cases hM
    exact rt_v hx hb hr hlk hP hD hS rfl dX8_actOperand_169
  replace hM := if_f c14 hM
  by_cases c16 : a1 = 141
  · replace hM := if_t c16 hM
    refine lv_tableIn (tgt := 117) hx hb dX8_actOperand_1 (by rw [c16]; decide) (by rw [c16]; decide) (by rw [c16]; rfl) (by decide) ?_
    refine lv_aload_n hx hb dX8_actOperand_117 rfl (lv_at hl 0 rfl) ?_
    obtain ⟨r17, hcr17, hM⟩ := ob_use hM
    refine cl_V (As := []) (rest := []) (wM0 ad o_X r17.1 r17.2.1 r17.2.2.1 o_U r17.2.2.2.1 r17.2.2.2.2 o_Q o_V o_I ++ wMC cI ad o_C ++ wMX cI ad o_X ++ wMN cI ad r17.2.1 ++ wMT cI ad r17.2.2.1 ++ wMU cI ad o_U ++ wME cI ad r17.2.2.2.2) [] ⟨hx, hb, hml, hown, hts⟩ (c_Model_output l D cI sd ad o_U o_Q o_V o_I o_C o_X o_L o_N o_T o_O o_E r17 hcr17) (cwV2 hts q1440 mvX8_output rfl rfl ⟨(Nat.le_of_ble_eq_true rfl), (Nat.le_of_ble_eq_true rfl)⟩) hK hE hA hP hD hS 0 (T := TX8) (N := 48) (ci := 8) rfl rfl [0, 1, 2, 3, 4, 5, 6, 7, 8, 9, 10, 11, 12, 13, 14, 16, 17, 18, 19] rfl (by decide) rfl rfl rfl rfl rfl rfl hl.1 (Nat.le_of_ble_eq_true rfl) dX8_actOperand_118 ⟨Nat.zero_le _, Nat.zero_le _⟩ (fun H locs hP hD hS => ?_)
    refine lv_goto (tgt := 169) hx hb dX8_actOperand_121 (by decide) ?_
    cases hM
    exact rt_v hx hb hr hlk hP hD hS rfl dX8_actOperand_169
  replace hM := if_f c16 hM
  by_cases c18 : a1 = 142
  · replace hM := if_t c18 hM
    refine lv_tableIn (tgt := 124) hx hb dX8_actOperand_1 (by rw [c18]; decide) (by rw [c18]; decide) (by rw [c18]; rfl) (by decide) ?_
    refine lv_aload_n hx hb dX8_actOperand_124 rfl (lv_at hl 0 rfl) ?_
    obtain ⟨r19, hcr19, hM⟩ := ob_use hM
    refine cl_V (As := []) (rest := []) (wM0 ad o_X o_L o_N o_T o_U o_O o_E o_Q o_V o_I ++ wMC cI ad o_C ++ wMX cI ad o_X ++ wMN cI ad o_N ++ wMT cI ad o_T ++ wMU cI ad o_U ++ wME cI ad o_E) (.int r19 :: []) ⟨hx, hb, hml, hown, hts⟩ (c_Model_isOperand l D cI sd ad o_C o_X o_N o_T o_U o_O o_E o_Q o_V o_I o_L r19 hcr19) (cwV2 hts q1444 mvX8_isOperand rfl rfl ⟨(Nat.le_of_ble_eq_true rfl), (Nat.le_of_ble_eq_true rfl)⟩) hK hE hA hP hD hS 0 (T := TX8) (N := 48) (ci := 8) rfl rfl [0] rfl (by decide) rfl rfl rfl rfl rfl rfl hl.1 (Nat.le_of_ble_eq_true rfl) dX8_actOperand_125 ⟨Nat.zero_le _, Nat.zero_le _⟩ (fun H locs hP hD hS => ?_)
    refine lv_if_eq (tgt := 169) hx hb dX8_actOperand_128 (by decide) (fun c20 => ?_) (fun c20 => ?_)
    · replace hM := if_t c20 hM
      cases hM
      exact rt_v hx hb hr hlk hP hD hS rfl dX8_actOperand_169
    · replace hM := if_f c20 hM
      refine lv_aload_n hx hb dX8_actOperand_131 rfl (lv_at hl 0 rfl) ?_
      obtain ⟨r21, hcr21, hM⟩ := ob_use hM
      refine cl_V (As := []) (rest := []) (wM0 ad o_X o_L o_N o_T r21 o_O o_E o_Q o_V o_I ++ wMC cI ad o_C ++ wMX cI ad o_X ++ wMN cI ad o_N ++ wMT cI ad o_T ++ wMU cI ad r21 ++ wME cI ad o_E) [] ⟨hx, hb, hml, hown, hts⟩ (c_Model_pushArgument l D cI sd ad o_C o_X o_L o_N o_T o_O o_E o_Q o_V o_I o_U r21 hcr21) (cwV2 hts q1448 mvX8_pushArgument rfl rfl ⟨(Nat.le_of_ble_eq_true rfl), (Nat.le_of_ble_eq_true rfl)⟩) hK hE hA hP hD hS 0 (T := TX8) (N := 48) (ci := 8) rfl rfl [0, 15] rfl (by decide) rfl rfl rfl rfl rfl rfl hl.1 (Nat.le_of_ble_eq_true rfl) dX8_actOperand_132 ⟨Nat.zero_le _, Nat.zero_le _⟩ (fun H locs hP hD hS => ?_)
      refine lv_goto (tgt := 169) hx hb dX8_actOperand_135 (by decide) ?_
      cases hM
      exact rt_v hx hb hr hlk hP hD hS rfl dX8_actOperand_169
  replace hM := if_f c18 hM
  by_cases c22 : a1 = 143
  · replace hM := if_t c22 hM
    refine lv_tableIn (tgt := 138) hx hb dX8_actOperand_1 (by rw [c22]; decide) (by rw [c22]; decide) (by rw [c22]; rfl) (by decide) ?_
    refine lv_aload_n hx hb dX8_actOperand_138 rfl (lv_at hl 0 rfl) ?_
    obtain ⟨r23, hcr23, hM⟩ := ob_use hM
    refine cl_V (As := []) (rest := []) (wM0 ad o_X r23.1 r23.2.1 r23.2.2.1 o_U r23.2.2.2.1 r23.2.2.2.2 o_Q o_V o_I ++ wMC cI ad o_C ++ wMX cI ad o_X ++ wMN cI ad r23.2.1 ++ wMT cI ad r23.2.2.1 ++ wMU cI ad o_U ++ wME cI ad r23.2.2.2.2) [] ⟨hx, hb, hml, hown, hts⟩ (c_Model_resultEnd l D cI sd ad o_U o_Q o_V o_I o_C o_X o_L o_N o_T o_O o_E r23 hcr23) (cwV2 hts q1452 mvX8_resultEnd rfl rfl ⟨(Nat.le_of_ble_eq_true rfl), (Nat.le_of_ble_eq_true rfl)⟩) hK hE hA hP hD hS 0 (T := TX8) (N := 48) (ci := 8) rfl rfl [0, 1, 2, 3, 4, 5, 6, 7, 8, 9, 10, 11, 12, 13, 14, 16, 17, 18, 19] rfl (by decide) rfl rfl rfl rfl rfl rfl hl.1 (Nat.le_of_ble_eq_true rfl) dX8_actOperand_139 ⟨Nat.zero_le _, Nat.zero_le _⟩ (fun H locs hP hD hS => ?_)
    refine lv_goto (tgt := 169) hx hb dX8_actOperand_142 (by decide) ?_
    cases hM
    exact rt_v hx hb hr hlk hP hD hS rfl dX8_actOperand_169
  replace hM := if_f c22 hM
  by_cases c24 : a1 = 144
  · replace hM := if_t c24 hM
    refine lv_tableIn (tgt := 145) hx hb dX8_actOperand_1 (by rw [c24]; decide) (by rw [c24]; decide) (by rw [c24]; rfl) (by decide) ?_
    refine lv_aload_n hx hb dX8_actOperand_145 rfl (lv_at hl 0 rfl) ?_
    refine va_get (D := D) (ci := 8) (v := .int o_L.2.1) (C := RX8) (T := TX8) (N := 48) hx hb hts layX8 hown hK hP 0 rfl rfl 7 (by decide) (hts _ (inA q985)) (fun _ h9 => h9) rfl dX8_actOperand_146 ?_
    refine lv_bipush (v := 59) hx hb dX8_actOperand_149 (by decide) ?_
    refine lv_icmp_ne (tgt := 169) hx hb dX8_actOperand_151 (by decide) (fun c25 => ?_) (fun c25 => ?_)
    · replace hM := if_f c25 hM
      cases hM
      exact rt_v hx hb hr hlk hP hD hS rfl dX8_actOperand_169
    · replace hM := if_t c25 hM
      refine lv_aload_n hx hb dX8_actOperand_154 rfl (lv_at hl 0 rfl) ?_
      obtain ⟨r26, hcr26, hM⟩ := ob_use hM
      refine cl_V (As := []) (rest := []) (wM0 ad o_X o_L o_N o_T r26 o_O o_E o_Q o_V o_I ++ wMC cI ad o_C ++ wMX cI ad o_X ++ wMN cI ad o_N ++ wMT cI ad o_T ++ wMU cI ad r26 ++ wME cI ad o_E) [] ⟨hx, hb, hml, hown, hts⟩ (c_Model_pushArgument l D cI sd ad o_C o_X o_L o_N o_T o_O o_E o_Q o_V o_I o_U r26 hcr26) (cwV2 hts q1448 mvX8_pushArgument rfl rfl ⟨(Nat.le_of_ble_eq_true rfl), (Nat.le_of_ble_eq_true rfl)⟩) hK hE hA hP hD hS 0 (T := TX8) (N := 48) (ci := 8) rfl rfl [0, 15] rfl (by decide) rfl rfl rfl rfl rfl rfl hl.1 (Nat.le_of_ble_eq_true rfl) dX8_actOperand_155 ⟨Nat.zero_le _, Nat.zero_le _⟩ (fun H locs hP hD hS => ?_)
      refine lv_aload_n hx hb dX8_actOperand_158 rfl (lv_at hl 0 rfl) ?_
      obtain ⟨r27, hcr27, hM⟩ := ob_use hM
      refine cl_V (As := []) (rest := []) (wM0 ad o_X r27.1 r27.2 o_T r26 o_O o_E o_Q o_V o_I ++ wMC cI ad o_C ++ wMX cI ad o_X ++ wMN cI ad r27.2 ++ wMT cI ad o_T ++ wMU cI ad r26 ++ wME cI ad o_E) [] ⟨hx, hb, hml, hown, hts⟩ (c_Model_step l D cI sd ad o_T r26 o_O o_E o_Q o_V o_I o_C o_X o_L o_N r27 hcr27) (cwV2 hts q1151 mvX8_step rfl rfl ⟨(Nat.le_of_ble_eq_true rfl), (Nat.le_of_ble_eq_true rfl)⟩) hK hE hA hP hD hS 0 (T := TX8) (N := 48) (ci := 8) rfl rfl [0, 1, 2, 3, 4, 5, 6, 7] rfl (by decide) rfl rfl rfl rfl rfl rfl hl.1 (Nat.le_of_ble_eq_true rfl) dX8_actOperand_159 ⟨Nat.zero_le _, Nat.zero_le _⟩ (fun H locs hP hD hS => ?_)
      refine lv_goto (tgt := 169) hx hb dX8_actOperand_162 (by decide) ?_
      cases hM
      exact rt_v hx hb hr hlk hP hD hS rfl dX8_actOperand_169
  replace hM := if_f c24 hM
  refine lv_tableOut (tgt := 165) hx hb dX8_actOperand_1 (by have := lv_neT c1 (show (134 : Int32).toInt = 134 by decide); have := lv_neT c3 (show (135 : Int32).toInt = 135 by decide); have := lv_neT c5 (show (136 : Int32).toInt = 136 by decide); have := lv_neT c7 (show (137 : Int32).toInt = 137 by decide); have := lv_neT c10 (show (138 : Int32).toInt = 138 by decide); have := lv_neT c12 (show (139 : Int32).toInt = 139 by decide); have := lv_neT c14 (show (140 : Int32).toInt = 140 by decide); have := lv_neT c16 (show (141 : Int32).toInt = 141 by decide); have := lv_neT c18 (show (142 : Int32).toInt = 142 by decide); have := lv_neT c22 (show (143 : Int32).toInt = 143 by decide); have := lv_neT c24 (show (144 : Int32).toInt = 144 by decide); omega) (by decide) ?_
  refine lv_aload_n hx hb dX8_actOperand_165 rfl (lv_at hl 0 rfl) ?_
  obtain ⟨r28, hcr28, hM⟩ := ob_use hM
  refine cl_V (As := []) (rest := []) (wM0 ad o_X o_L o_N r28.1 o_U o_O r28.2 o_Q o_V o_I ++ wMC cI ad o_C ++ wMX cI ad o_X ++ wMN cI ad o_N ++ wMT cI ad r28.1 ++ wMU cI ad o_U ++ wME cI ad r28.2) [] ⟨hx, hb, hml, hown, hts⟩ (c_Model_argument l D cI sd ad o_C o_X o_L o_N o_U o_O o_Q o_V o_I o_T o_E r28 hcr28) (cwV2 hts q1432 mvX8_argument rfl rfl ⟨(Nat.le_of_ble_eq_true rfl), (Nat.le_of_ble_eq_true rfl)⟩) hK hE hA hP hD hS 0 (T := TX8) (N := 48) (ci := 8) rfl rfl [0, 8, 9, 10, 11, 12, 13, 14, 16, 17, 18, 19] rfl (by decide) rfl rfl rfl rfl rfl rfl hl.1 (Nat.le_of_ble_eq_true rfl) dX8_actOperand_166 ⟨Nat.zero_le _, Nat.zero_le _⟩ (fun H locs hP hD hS => ?_)
  cases hM
  exact rt_v hx hb hr hlk hP hD hS rfl dX8_actOperand_169

set_option maxHeartbeats 4000000 in
set_option maxRecDepth 100000 in
theorem c_Model_actRung (l : Launch) (D : va_G) (cI : ClassId) (sd : Nat → Nat) (ad : Nat → Nat) (o_E : S_ME) (o_Q : S_MQ) (o_V : S_MV) (o_I : S_MI) (o_C : S_MC) (o_X : S_MX) (o_L : S_ML) (o_N : S_MN) (o_T : S_MT) (o_U : S_MU) (o_O : S_MO) (a1 : Int32) (res : S_ML × S_MN × S_MT × S_MU × S_MO) (hM : f_Model_actRung o_C o_X o_L o_N o_T o_U o_O a1 = some res) : Ctr l D cI sd yX8_actRung (wsM yX8_actRung cX8_actRung 2 (Option.none : Option Jvm.ClassFile.FieldType)) { frames := 7, cells := 0, slots := 0, locals := 153 } [.ref (ad 100), .int a1] (wM0 ad o_X o_L o_N o_T o_U o_O o_E o_Q o_V o_I ++ wMC cI ad o_C ++ wMX cI ad o_X ++ wMN cI ad o_N ++ wMT cI ad o_T ++ wMU cI ad o_U) (wM0 ad o_X res.1 res.2.1 res.2.2.1 res.2.2.2.1 res.2.2.2.2 o_E o_Q o_V o_I ++ wMC cI ad o_C ++ wMX cI ad o_X ++ wMN cI ad res.2.1 ++ wMT cI ad res.2.2.1 ++ wMU cI ad res.2.2.2.1) none := by
  refine Ctr.of (cc := cX8_actRung) (maxL := 2) (own := RX8) (by decide +kernel) rfl rfl (Nat.le_of_ble_eq_true rfl) ?_
  intro p e s m below meth c A ls hx hb hr hml hown hts hlk hK hE hA hP hD hS hl
  have hl : lv_has ls 2 [(0, .ref (ad 100)), (1, .int a1)] := hl
  unfold f_Model_actRung at hM
  refine lv_iload_n hx hb dX8_actRung_0 rfl (lv_at hl 1 rfl) ?_
  by_cases c1 : a1 = 150
  · replace hM := if_t c1 hM
    refine lv_tableIn (tgt := 48) hx hb dX8_actRung_1 (by rw [c1]; decide) (by rw [c1]; decide) (by rw [c1]; rfl) (by decide) ?_
    refine lv_aload_n hx hb dX8_actRung_48 rfl (lv_at hl 0 rfl) ?_
    refine va_get (D := D) (ci := 8) (v := .int o_L.2.1) (C := RX8) (T := TX8) (N := 48) hx hb hts layX8 hown hK hP 0 rfl rfl 7 (by decide) (hts _ (inA q985)) (fun _ h9 => h9) rfl dX8_actRung_49 ?_
    refine lv_bipush (v := 39) hx hb dX8_actRung_52 (by decide) ?_
    refine lv_icmp_ne (tgt := 183) hx hb dX8_actRung_54 (by decide) (fun c2 => ?_) (fun c2 => ?_)
    · replace hM := if_f c2 hM
      cases hM
      exact rt_v hx hb hr hlk hP hD hS rfl dX8_actRung_183
    · replace hM := if_t c2 hM
      refine lv_aload_n hx hb dX8_actRung_57 rfl (lv_at hl 0 rfl) ?_
      refine lv_bipush (v := 23) hx hb dX8_actRung_58 (by decide) ?_
      refine lv_aload_n hx hb dX8_actRung_60 rfl (lv_at hl 0 rfl) ?_
      refine va_get (D := D) (ci := 8) (v := .int o_L.1) (C := RX8) (T := TX8) (N := 48) hx hb hts layX8 hown hK hP 0 rfl rfl 6 (by decide) (hts _ (inA q984)) (fun _ h9 => h9) rfl dX8_actRung_61 ?_
      refine lv_iconst (v := 0) hx hb dX8_actRung_64 (by decide) ?_
      obtain ⟨r3, hcr3, hM⟩ := ob_use hM
      refine cl_V (As := [.int 23, .int o_L.1, .int 0]) (rest := []) (wM0 ad o_X o_L o_N r3 o_U o_O o_E o_Q o_V o_I ++ wMC cI ad o_C ++ wMX cI ad o_X ++ wMN cI ad o_N ++ wMT cI ad r3 ++ wMU cI ad o_U) [] ⟨hx, hb, hml, hown, hts⟩ (c_Model_down l D cI sd ad o_C o_X o_L o_N o_U o_O o_E o_Q o_V o_I o_T 23 o_L.1 0 r3 hcr3) (cwV2 hts q1245 mvX8_down rfl rfl ⟨(Nat.le_of_ble_eq_true rfl), (Nat.le_of_ble_eq_true rfl)⟩) hK hE hA hP hD hS 0 (T := TX8) (N := 48) (ci := 8) rfl rfl [0, 8, 9, 10, 11, 12, 13, 14] rfl (by decide) rfl rfl rfl rfl rfl rfl hl.1 (Nat.le_of_ble_eq_true rfl) dX8_actRung_65 ⟨Nat.zero_le _, Nat.zero_le _⟩ (fun H locs hP hD hS => ?_)
      refine lv_aload_n hx hb dX8_actRung_68 rfl (lv_at hl 0 rfl) ?_
      refine lv_sipush (v := 150) hx hb dX8_actRung_69 (by decide) ?_
      refine lv_bipush (v := 101) hx hb dX8_actRung_72 (by decide) ?_
      refine lv_bipush (v := 40) hx hb dX8_actRung_74 (by decide) ?_
      refine lv_sipush (v := 152) hx hb dX8_actRung_76 (by decide) ?_
      obtain ⟨r4, hcr4, hM⟩ := ob_use hM
      refine cl_V (As := [.int 150, .int 101, .int 40, .int 152]) (rest := []) (wM0 ad o_X o_L o_N r3 r4 o_O o_E o_Q o_V o_I ++ wMC cI ad o_C ++ wMX cI ad o_X ++ wMN cI ad o_N ++ wMT cI ad r3 ++ wMU cI ad r4) [] ⟨hx, hb, hml, hown, hts⟩ (c_Model_push4 l D cI sd ad o_C o_X o_L o_N r3 o_O o_E o_Q o_V o_I o_U 150 101 40 152 r4 hcr4) (cwV2 hts q1253 mvX8_push4 rfl rfl ⟨(Nat.le_of_ble_eq_true rfl), (Nat.le_of_ble_eq_true rfl)⟩) hK hE hA hP hD hS 0 (T := TX8) (N := 48) (ci := 8) rfl rfl [0, 15] rfl (by decide) rfl rfl rfl rfl rfl rfl hl.1 (Nat.le_of_ble_eq_true rfl) dX8_actRung_79 ⟨Nat.zero_le _, Nat.zero_le _⟩ (fun H locs hP hD hS => ?_)
      refine lv_aload_n hx hb dX8_actRung_82 rfl (lv_at hl 0 rfl) ?_
      refine lv_sipush (v := 151) hx hb dX8_actRung_83 (by decide) ?_
      obtain ⟨r5, hcr5, hM⟩ := ob_use hM
      refine cl_V (As := [.int 151]) (rest := []) (wM0 ad o_X o_L o_N r3 r5 o_O o_E o_Q o_V o_I ++ wMC cI ad o_C ++ wMX cI ad o_X ++ wMN cI ad o_N ++ wMT cI ad r3 ++ wMU cI ad r5) [] ⟨hx, hb, hml, hown, hts⟩ (c_Model_push l D cI sd ad o_C o_X o_L o_N r3 o_O o_E o_Q o_V o_I r4 151 r5 hcr5) (cwV2 hts q1147 mvX8_push rfl rfl ⟨(Nat.le_of_ble_eq_true rfl), (Nat.le_of_ble_eq_true rfl)⟩) hK hE hA hP hD hS 0 (T := TX8) (N := 48) (ci := 8) rfl rfl [0, 15] rfl (by decide) rfl rfl rfl rfl rfl rfl hl.1 (Nat.le_of_ble_eq_true rfl) dX8_actRung_86 ⟨Nat.zero_le _, Nat.zero_le _⟩ (fun H locs hP hD hS => ?_)
      refine lv_aload_n hx hb dX8_actRung_89 rfl (lv_at hl 0 rfl) ?_
      obtain ⟨r6, hcr6, hM⟩ := ob_use hM
      refine cl_V (As := []) (rest := []) (wM0 ad o_X r6.1 r6.2 r3 r5 o_O o_E o_Q o_V o_I ++ wMC cI ad o_C ++ wMX cI ad o_X ++ wMN cI ad r6.2 ++ wMT cI ad r3 ++ wMU cI ad r5) [] ⟨hx, hb, hml, hown, hts⟩ (c_Model_step l D cI sd ad r3 r5 o_O o_E o_Q o_V o_I o_C o_X o_L o_N r6 hcr6) (cwV2 hts q1151 mvX8_step rfl rfl ⟨(Nat.le_of_ble_eq_true rfl), (Nat.le_of_ble_eq_true rfl)⟩) hK hE hA hP hD hS 0 (T := TX8) (N := 48) (ci := 8) rfl rfl [0, 1, 2, 3, 4, 5, 6, 7] rfl (by decide) rfl rfl rfl rfl rfl rfl hl.1 (Nat.le_of_ble_eq_true rfl) dX8_actRung_90 ⟨Nat.zero_le _, Nat.zero_le _⟩ (fun H locs hP hD hS => ?_)
      refine lv_goto (tgt := 183) hx hb dX8_actRung_93 (by decide) ?_
      cases hM
      exact rt_v hx hb hr hlk hP hD hS rfl dX8_actRung_183
  replace hM := if_f c1 hM
  by_cases c7 : a1 = 151
  · replace hM := if_t c7 hM
    refine lv_tableIn (tgt := 96) hx hb dX8_actRung_1 (by rw [c7]; decide) (by rw [c7]; decide) (by rw [c7]; rfl) (by decide) ?_
    refine lv_aload_n hx hb dX8_actRung_96 rfl (lv_at hl 0 rfl) ?_
    refine lv_bipush (v := 24) hx hb dX8_actRung_97 (by decide) ?_
    refine lv_aload_n hx hb dX8_actRung_99 rfl (lv_at hl 0 rfl) ?_
    refine va_get (D := D) (ci := 8) (v := .int o_L.1) (C := RX8) (T := TX8) (N := 48) hx hb hts layX8 hown hK hP 0 rfl rfl 6 (by decide) (hts _ (inA q984)) (fun _ h9 => h9) rfl dX8_actRung_100 ?_
    refine lv_iconst (v := 0) hx hb dX8_actRung_103 (by decide) ?_
    obtain ⟨r8, hcr8, hM⟩ := ob_use hM
    refine cl_V (As := [.int 24, .int o_L.1, .int 0]) (rest := []) (wM0 ad o_X o_L o_N r8 o_U o_O o_E o_Q o_V o_I ++ wMC cI ad o_C ++ wMX cI ad o_X ++ wMN cI ad o_N ++ wMT cI ad r8 ++ wMU cI ad o_U) [] ⟨hx, hb, hml, hown, hts⟩ (c_Model_down l D cI sd ad o_C o_X o_L o_N o_U o_O o_E o_Q o_V o_I o_T 24 o_L.1 0 r8 hcr8) (cwV2 hts q1245 mvX8_down rfl rfl ⟨(Nat.le_of_ble_eq_true rfl), (Nat.le_of_ble_eq_true rfl)⟩) hK hE hA hP hD hS 0 (T := TX8) (N := 48) (ci := 8) rfl rfl [0, 8, 9, 10, 11, 12, 13, 14] rfl (by decide) rfl rfl rfl rfl rfl rfl hl.1 (Nat.le_of_ble_eq_true rfl) dX8_actRung_104 ⟨Nat.zero_le _, Nat.zero_le _⟩ (fun H locs hP hD hS => ?_)
    refine lv_aload_n hx hb dX8_actRung_107 rfl (lv_at hl 0 rfl) ?_
    refine lv_bipush (v := 101) hx hb dX8_actRung_108 (by decide) ?_
    refine lv_bipush (v := 60) hx hb dX8_actRung_110 (by decide) ?_
    refine lv_sipush (v := 154) hx hb dX8_actRung_112 (by decide) ?_
    refine lv_sipush (v := 153) hx hb dX8_actRung_115 (by decide) ?_
    obtain ⟨r9, hcr9, hM⟩ := ob_use hM
    refine cl_V (As := [.int 101, .int 60, .int 154, .int 153]) (rest := []) (wM0 ad o_X o_L o_N r8 r9 o_O o_E o_Q o_V o_I ++ wMC cI ad o_C ++ wMX cI ad o_X ++ wMN cI ad o_N ++ wMT cI ad r8 ++ wMU cI ad r9) [] ⟨hx, hb, hml, hown, hts⟩ (c_Model_push4 l D cI sd ad o_C o_X o_L o_N r8 o_O o_E o_Q o_V o_I o_U 101 60 154 153 r9 hcr9) (cwV2 hts q1253 mvX8_push4 rfl rfl ⟨(Nat.le_of_ble_eq_true rfl), (Nat.le_of_ble_eq_true rfl)⟩) hK hE hA hP hD hS 0 (T := TX8) (N := 48) (ci := 8) rfl rfl [0, 15] rfl (by decide) rfl rfl rfl rfl rfl rfl hl.1 (Nat.le_of_ble_eq_true rfl) dX8_actRung_118 ⟨Nat.zero_le _, Nat.zero_le _⟩ (fun H locs hP hD hS => ?_)
    refine lv_goto (tgt := 183) hx hb dX8_actRung_121 (by decide) ?_
    cases hM
    exact rt_v hx hb hr hlk hP hD hS rfl dX8_actRung_183
  replace hM := if_f c7 hM
  by_cases c10 : a1 = 152
  · replace hM := if_t c10 hM
    refine lv_tableIn (tgt := 124) hx hb dX8_actRung_1 (by rw [c10]; decide) (by rw [c10]; decide) (by rw [c10]; rfl) (by decide) ?_
    refine lv_aload_n hx hb dX8_actRung_124 rfl (lv_at hl 0 rfl) ?_
    obtain ⟨r11, hcr11, hM⟩ := ob_use hM
    refine cl_V (As := []) (rest := []) (wM0 ad o_X o_L o_N o_T o_U o_O o_E o_Q o_V o_I ++ wMC cI ad o_C ++ wMX cI ad o_X ++ wMN cI ad o_N ++ wMT cI ad o_T ++ wMU cI ad o_U) (.int r11 :: []) ⟨hx, hb, hml, hown, hts⟩ (c_Model_isCell l D cI sd ad o_C o_X o_N o_T o_U o_O o_E o_Q o_V o_I o_L r11 hcr11) (cwV2 hts q1460 mvX8_isCell rfl rfl ⟨(Nat.le_of_ble_eq_true rfl), (Nat.le_of_ble_eq_true rfl)⟩) hK hE hA hP hD hS 0 (T := TX8) (N := 48) (ci := 8) rfl rfl [0] rfl (by decide) rfl rfl rfl rfl rfl rfl hl.1 (Nat.le_of_ble_eq_true rfl) dX8_actRung_125 ⟨Nat.zero_le _, Nat.zero_le _⟩ (fun H locs hP hD hS => ?_)
    refine lv_if_eq (tgt := 183) hx hb dX8_actRung_128 (by decide) (fun c12 => ?_) (fun c12 => ?_)
    · replace hM := if_t c12 hM
      cases hM
      exact rt_v hx hb hr hlk hP hD hS rfl dX8_actRung_183
    · replace hM := if_f c12 hM
      refine lv_aload_n hx hb dX8_actRung_131 rfl (lv_at hl 0 rfl) ?_
      refine lv_sipush (v := 152) hx hb dX8_actRung_132 (by decide) ?_
      refine lv_sipush (v := 151) hx hb dX8_actRung_135 (by decide) ?_
      obtain ⟨r13, hcr13, hM⟩ := ob_use hM
      refine cl_V (As := [.int 152, .int 151]) (rest := []) (wM0 ad o_X o_L o_N o_T r13 o_O o_E o_Q o_V o_I ++ wMC cI ad o_C ++ wMX cI ad o_X ++ wMN cI ad o_N ++ wMT cI ad o_T ++ wMU cI ad r13) [] ⟨hx, hb, hml, hown, hts⟩ (c_Model_push2 l D cI sd ad o_C o_X o_L o_N o_T o_O o_E o_Q o_V o_I o_U 152 151 r13 hcr13) (cwV2 hts q1257 mvX8_push2 rfl rfl ⟨(Nat.le_of_ble_eq_true rfl), (Nat.le_of_ble_eq_true rfl)⟩) hK hE hA hP hD hS 0 (T := TX8) (N := 48) (ci := 8) rfl rfl [0, 15] rfl (by decide) rfl rfl rfl rfl rfl rfl hl.1 (Nat.le_of_ble_eq_true rfl) dX8_actRung_138 ⟨Nat.zero_le _, Nat.zero_le _⟩ (fun H locs hP hD hS => ?_)
      refine lv_goto (tgt := 183) hx hb dX8_actRung_141 (by decide) ?_
      cases hM
      exact rt_v hx hb hr hlk hP hD hS rfl dX8_actRung_183
  replace hM := if_f c10 hM
  by_cases c14 : a1 = 153
  · replace hM := if_t c14 hM
    refine lv_tableIn (tgt := 144) hx hb dX8_actRung_1 (by rw [c14]; decide) (by rw [c14]; decide) (by rw [c14]; rfl) (by decide) ?_
    refine lv_aload_n hx hb dX8_actRung_144 rfl (lv_at hl 0 rfl) ?_
    obtain ⟨r15, hcr15, hM⟩ := ob_use hM
    refine cl_V (As := []) (rest := []) (wM0 ad o_X r15.1 r15.2.1 r15.2.2.1 r15.2.2.2 o_O o_E o_Q o_V o_I ++ wMC cI ad o_C ++ wMX cI ad o_X ++ wMN cI ad r15.2.1 ++ wMT cI ad r15.2.2.1 ++ wMU cI ad r15.2.2.2) [] ⟨hx, hb, hml, hown, hts⟩ (c_Model_cell l D cI sd ad o_O o_E o_Q o_V o_I o_C o_X o_L o_N o_T o_U r15 hcr15) (cwV2 hts q1464 mvX8_cell rfl rfl ⟨(Nat.le_of_ble_eq_true rfl), (Nat.le_of_ble_eq_true rfl)⟩) hK hE hA hP hD hS 0 (T := TX8) (N := 48) (ci := 8) rfl rfl [0, 1, 2, 3, 4, 5, 6, 7, 8, 9, 10, 11, 12, 13, 14, 15] rfl (by decide) rfl rfl rfl rfl rfl rfl hl.1 (Nat.le_of_ble_eq_true rfl) dX8_actRung_145 ⟨Nat.zero_le _, Nat.zero_le _⟩ (fun H locs hP hD hS => ?_)
    refine lv_goto (tgt := 183) hx hb dX8_actRung_148 (by decide) ?_
    cases hM
    exact rt_v hx hb hr hlk hP hD hS rfl dX8_actRung_183
  replace hM := if_f c14 hM
  by_cases c16 : a1 = 154
  · replace hM := if_t c16 hM
    refine lv_tableIn (tgt := 151) hx hb dX8_actRung_1 (by rw [c16]; decide) (by rw [c16]; decide) (by rw [c16]; rfl) (by decide) ?_
    refine lv_aload_n hx hb dX8_actRung_151 rfl (lv_at hl 0 rfl) ?_
    obtain ⟨r17, hcr17, hM⟩ := ob_use hM
    refine cl_V (As := []) (rest := []) (wM0 ad o_X r17.1 r17.2.1 r17.2.2.1 r17.2.2.2 o_O o_E o_Q o_V o_I ++ wMC cI ad o_C ++ wMX cI ad o_X ++ wMN cI ad r17.2.1 ++ wMT cI ad r17.2.2.1 ++ wMU cI ad r17.2.2.2) [] ⟨hx, hb, hml, hown, hts⟩ (c_Model_moreCells l D cI sd ad o_O o_E o_Q o_V o_I o_C o_X o_L o_N o_T o_U r17 hcr17) (cwV2 hts q1468 mvX8_moreCells rfl rfl ⟨(Nat.le_of_ble_eq_true rfl), (Nat.le_of_ble_eq_true rfl)⟩) hK hE hA hP hD hS 0 (T := TX8) (N := 48) (ci := 8) rfl rfl [0, 1, 2, 3, 4, 5, 6, 7, 8, 9, 10, 11, 12, 13, 14, 15] rfl (by decide) rfl rfl rfl rfl rfl rfl hl.1 (Nat.le_of_ble_eq_true rfl) dX8_actRung_152 ⟨Nat.zero_le _, Nat.zero_le _⟩ (fun H locs hP hD hS => ?_)
    refine lv_goto (tgt := 183) hx hb dX8_actRung_155 (by decide) ?_
    cases hM
    exact rt_v hx hb hr hlk hP hD hS rfl dX8_actRung_183
  replace hM := if_f c16 hM
  by_cases c18 : a1 = 155
  · replace hM := if_t c18 hM
    refine lv_tableIn (tgt := 158) hx hb dX8_actRung_1 (by rw [c18]; decide) (by rw [c18]; decide) (by rw [c18]; rfl) (by decide) ?_
    refine lv_aload_n hx hb dX8_actRung_158 rfl (lv_at hl 0 rfl) ?_
    obtain ⟨r19, hcr19, hM⟩ := ob_use hM
    refine cl_V (As := []) (rest := []) (wM0 ad o_X r19.1 r19.2.1 o_T r19.2.2.1 r19.2.2.2 o_E o_Q o_V o_I ++ wMC cI ad o_C ++ wMX cI ad o_X ++ wMN cI ad r19.2.1 ++ wMT cI ad o_T ++ wMU cI ad r19.2.2.1) [] ⟨hx, hb, hml, hown, hts⟩ (c_Model_contact l D cI sd ad o_T o_E o_Q o_V o_I o_C o_X o_L o_N o_U o_O r19 hcr19) (cwV2 hts q1472 mvX8_contact rfl rfl ⟨(Nat.le_of_ble_eq_true rfl), (Nat.le_of_ble_eq_true rfl)⟩) hK hE hA hP hD hS 0 (T := TX8) (N := 48) (ci := 8) rfl rfl [0, 1, 2, 3, 4, 5, 6, 7, 15] rfl (by decide) rfl rfl rfl rfl rfl rfl hl.1 (Nat.le_of_ble_eq_true rfl) dX8_actRung_159 ⟨Nat.zero_le _, Nat.zero_le _⟩ (fun H locs hP hD hS => ?_)
    refine lv_goto (tgt := 183) hx hb dX8_actRung_162 (by decide) ?_
    cases hM
    exact rt_v hx hb hr hlk hP hD hS rfl dX8_actRung_183
  replace hM := if_f c18 hM
  by_cases c20 : a1 = 156
  · replace hM := if_t c20 hM
    refine lv_tableIn (tgt := 165) hx hb dX8_actRung_1 (by rw [c20]; decide) (by rw [c20]; decide) (by rw [c20]; rfl) (by decide) ?_
    refine lv_aload_n hx hb dX8_actRung_165 rfl (lv_at hl 0 rfl) ?_
    obtain ⟨r21, hcr21, hM⟩ := ob_use hM
    refine cl_V (As := []) (rest := []) (wM0 ad o_X r21.1 r21.2.1 r21.2.2.1 r21.2.2.2 o_O o_E o_Q o_V o_I ++ wMC cI ad o_C ++ wMX cI ad o_X ++ wMN cI ad r21.2.1 ++ wMT cI ad r21.2.2.1 ++ wMU cI ad r21.2.2.2) [] ⟨hx, hb, hml, hown, hts⟩ (c_Model_behindContact l D cI sd ad o_E o_Q o_V o_I o_C o_X o_L o_N o_T o_U o_O r21 hcr21) (cwV2 hts q1476 mvX8_behindContact rfl rfl ⟨(Nat.le_of_ble_eq_true rfl), (Nat.le_of_ble_eq_true rfl)⟩) hK hE hA hP hD hS 0 (T := TX8) (N := 48) (ci := 8) rfl rfl [0, 1, 2, 3, 4, 5, 6, 7, 8, 9, 10, 11, 12, 13, 14, 15] rfl (by decide) rfl rfl rfl rfl rfl rfl hl.1 (Nat.le_of_ble_eq_true rfl) dX8_actRung_166 ⟨Nat.zero_le _, Nat.zero_le _⟩ (fun H locs hP hD hS => ?_)
    refine lv_goto (tgt := 183) hx hb dX8_actRung_169 (by decide) ?_
    cases hM
    exact rt_v hx hb hr hlk hP hD hS rfl dX8_actRung_183
  replace hM := if_f c20 hM
  by_cases c22 : a1 = 157
  · replace hM := if_t c22 hM
    refine lv_tableIn (tgt := 172) hx hb dX8_actRung_1 (by rw [c22]; decide) (by rw [c22]; decide) (by rw [c22]; rfl) (by decide) ?_
    refine lv_aload_n hx hb dX8_actRung_172 rfl (lv_at hl 0 rfl) ?_
    obtain ⟨r23, hcr23, hM⟩ := ob_use hM
    refine cl_V (As := []) (rest := []) (wM0 ad o_X r23.1 r23.2.1 r23.2.2 o_U o_O o_E o_Q o_V o_I ++ wMC cI ad o_C ++ wMX cI ad o_X ++ wMN cI ad r23.2.1 ++ wMT cI ad r23.2.2 ++ wMU cI ad o_U) [] ⟨hx, hb, hml, hown, hts⟩ (c_Model_coil l D cI sd ad o_U o_O o_E o_Q o_V o_I o_C o_X o_L o_N o_T r23 hcr23) (cwV2 hts q1480 mvX8_coil rfl rfl ⟨(Nat.le_of_ble_eq_true rfl), (Nat.le_of_ble_eq_true rfl)⟩) hK hE hA hP hD hS 0 (T := TX8) (N := 48) (ci := 8) rfl rfl [0, 1, 2, 3, 4, 5, 6, 7, 8, 9, 10, 11, 12, 13, 14] rfl (by decide) rfl rfl rfl rfl rfl rfl hl.1 (Nat.le_of_ble_eq_true rfl) dX8_actRung_173 ⟨Nat.zero_le _, Nat.zero_le _⟩ (fun H locs hP hD hS => ?_)
    refine lv_goto (tgt := 183) hx hb dX8_actRung_176 (by decide) ?_
    cases hM
    exact rt_v hx hb hr hlk hP hD hS rfl dX8_actRung_183
  replace hM := if_f c22 hM
  refine lv_tableOut (tgt := 179) hx hb dX8_actRung_1 (by have := lv_neT c1 (show (150 : Int32).toInt = 150 by decide); have := lv_neT c7 (show (151 : Int32).toInt = 151 by decide); have := lv_neT c10 (show (152 : Int32).toInt = 152 by decide); have := lv_neT c14 (show (153 : Int32).toInt = 153 by decide); have := lv_neT c16 (show (154 : Int32).toInt = 154 by decide); have := lv_neT c18 (show (155 : Int32).toInt = 155 by decide); have := lv_neT c20 (show (156 : Int32).toInt = 156 by decide); have := lv_neT c22 (show (157 : Int32).toInt = 157 by decide); omega) (by decide) ?_
  refine lv_aload_n hx hb dX8_actRung_179 rfl (lv_at hl 0 rfl) ?_
  obtain ⟨r24, hcr24, hM⟩ := ob_use hM
  refine cl_V (As := []) (rest := []) (wM0 ad o_X r24.1 r24.2.1 r24.2.2 o_U o_O o_E o_Q o_V o_I ++ wMC cI ad o_C ++ wMX cI ad o_X ++ wMN cI ad r24.2.1 ++ wMT cI ad r24.2.2 ++ wMU cI ad o_U) [] ⟨hx, hb, hml, hown, hts⟩ (c_Model_aName l D cI sd ad o_U o_O o_E o_Q o_V o_I o_C o_X o_L o_N o_T r24 hcr24) (cwV2 hts q1289 mvX8_aName rfl rfl ⟨(Nat.le_of_ble_eq_true rfl), (Nat.le_of_ble_eq_true rfl)⟩) hK hE hA hP hD hS 0 (T := TX8) (N := 48) (ci := 8) rfl rfl [0, 1, 2, 3, 4, 5, 6, 7, 8, 9, 10, 11, 12, 13, 14] rfl (by decide) rfl rfl rfl rfl rfl rfl hl.1 (Nat.le_of_ble_eq_true rfl) dX8_actRung_180 ⟨Nat.zero_le _, Nat.zero_le _⟩ (fun H locs hP hD hS => ?_)
  cases hM
  exact rt_v hx hb hr hlk hP hD hS rfl dX8_actRung_183

set_option maxHeartbeats 4000000 in
set_option maxRecDepth 100000 in
theorem c_Model_act (l : Launch) (D : va_G) (cI : ClassId) (sd : Nat → Nat) (ad : Nat → Nat) (o_Q : S_MQ) (o_V : S_MV) (o_I : S_MI) (o_C : S_MC) (o_X : S_MX) (o_L : S_ML) (o_N : S_MN) (o_T : S_MT) (o_U : S_MU) (o_O : S_MO) (o_E : S_ME) (a1 : Int32) (res : S_ML × S_MN × S_MT × S_MU × S_MO × S_ME) (hM : f_Model_act o_C o_X o_L o_N o_T o_U o_O o_E a1 = some res) : Ctr l D cI sd yX8_act (wsM yX8_act cX8_act 2 (Option.none : Option Jvm.ClassFile.FieldType)) { frames := 10, cells := 0, slots := 0, locals := 216 } [.ref (ad 100), .int a1] (wM0 ad o_X o_L o_N o_T o_U o_O o_E o_Q o_V o_I ++ wMC cI ad o_C ++ wMX cI ad o_X ++ wMN cI ad o_N ++ wMT cI ad o_T ++ wMU cI ad o_U ++ wME cI ad o_E) (wM0 ad o_X res.1 res.2.1 res.2.2.1 res.2.2.2.1 res.2.2.2.2.1 res.2.2.2.2.2 o_Q o_V o_I ++ wMC cI ad o_C ++ wMX cI ad o_X ++ wMN cI ad res.2.1 ++ wMT cI ad res.2.2.1 ++ wMU cI ad res.2.2.2.1 ++ wME cI ad res.2.2.2.2.2) none := by
  refine Ctr.of (cc := cX8_act) (maxL := 2) (own := RX8) (by decide +kernel) rfl rfl (Nat.le_of_ble_eq_true rfl) ?_
  intro p e s m below meth c A ls hx hb hr hml hown hts hlk hK hE hA hP hD hS hl
  have hl : lv_has ls 2 [(0, .ref (ad 100)), (1, .int a1)] := hl
  unfold f_Model_act at hM
  refine lv_iload_n hx hb dX8_act_0 rfl (lv_at hl 1 rfl) ?_
  refine lv_bipush (v := 100) hx hb dX8_act_1 (by decide) ?_
  refine lv_icmp_ge (tgt := 14) hx hb dX8_act_3 (by decide) (fun c1 => ?_) (fun c1 => ?_)
  · replace hM := if_t c1 hM
    refine lv_iload_n hx hb dX8_act_14 rfl (lv_at hl 1 rfl) ?_
    refine lv_bipush (v := 115) hx hb dX8_act_15 (by decide) ?_
    refine lv_icmp_ge (tgt := 28) hx hb dX8_act_17 (by decide) (fun c2 => ?_) (fun c2 => ?_)
    · replace hM := if_t c2 hM
      refine lv_iload_n hx hb dX8_act_28 rfl (lv_at hl 1 rfl) ?_
      refine lv_sipush (v := 134) hx hb dX8_act_29 (by decide) ?_
      refine lv_icmp_ge (tgt := 43) hx hb dX8_act_32 (by decide) (fun c3 => ?_) (fun c3 => ?_)
      · replace hM := if_t c3 hM
        refine lv_iload_n hx hb dX8_act_43 rfl (lv_at hl 1 rfl) ?_
        refine lv_sipush (v := 150) hx hb dX8_act_44 (by decide) ?_
        refine lv_icmp_ge (tgt := 58) hx hb dX8_act_47 (by decide) (fun c4 => ?_) (fun c4 => ?_)
        · replace hM := if_t c4 hM
          refine lv_aload_n hx hb dX8_act_58 rfl (lv_at hl 0 rfl) ?_
          refine lv_iload_n hx hb dX8_act_59 rfl (lv_at hl 1 rfl) ?_
          obtain ⟨r5, hcr5, hM⟩ := ob_use hM
          refine cl_V (As := [.int a1]) (rest := []) (wM0 ad o_X r5.1 r5.2.1 r5.2.2.1 r5.2.2.2.1 r5.2.2.2.2 o_E o_Q o_V o_I ++ wMC cI ad o_C ++ wMX cI ad o_X ++ wMN cI ad r5.2.1 ++ wMT cI ad r5.2.2.1 ++ wMU cI ad r5.2.2.2.1 ++ wME cI ad o_E) [] ⟨hx, hb, hml, hown, hts⟩ (c_Model_actRung l D cI sd ad o_E o_Q o_V o_I o_C o_X o_L o_N o_T o_U o_O a1 r5 hcr5) (cwV2 hts q1456 mvX8_actRung rfl rfl ⟨(Nat.le_of_ble_eq_true rfl), (Nat.le_of_ble_eq_true rfl)⟩) hK hE hA hP hD hS 0 (T := TX8) (N := 48) (ci := 8) rfl rfl [0, 1, 2, 3, 4, 5, 6, 7, 8, 9, 10, 11, 12, 13, 14, 15] rfl (by decide) rfl rfl rfl rfl rfl rfl hl.1 (Nat.le_of_ble_eq_true rfl) dX8_act_60 ⟨Nat.zero_le _, Nat.zero_le _⟩ (fun H locs hP hD hS => ?_)
          cases hM
          exact rt_v hx hb hr hlk hP hD hS rfl dX8_act_63
        · replace hM := if_f c4 hM
          refine lv_aload_n hx hb dX8_act_50 rfl (lv_at hl 0 rfl) ?_
          refine lv_iload_n hx hb dX8_act_51 rfl (lv_at hl 1 rfl) ?_
          obtain ⟨r6, hcr6, hM⟩ := ob_use hM
          refine cl_V (As := [.int a1]) (rest := []) (wM0 ad o_X r6.1 r6.2.1 r6.2.2.1 r6.2.2.2.1 r6.2.2.2.2.1 r6.2.2.2.2.2 o_Q o_V o_I ++ wMC cI ad o_C ++ wMX cI ad o_X ++ wMN cI ad r6.2.1 ++ wMT cI ad r6.2.2.1 ++ wMU cI ad r6.2.2.2.1 ++ wME cI ad r6.2.2.2.2.2) [] ⟨hx, hb, hml, hown, hts⟩ (c_Model_actOperand l D cI sd ad o_Q o_V o_I o_C o_X o_L o_N o_T o_U o_O o_E a1 r6 hcr6) (cwV2 hts q1373 mvX8_actOperand rfl rfl ⟨(Nat.le_of_ble_eq_true rfl), (Nat.le_of_ble_eq_true rfl)⟩) hK hE hA hP hD hS 0 (T := TX8) (N := 48) (ci := 8) rfl rfl [0, 1, 2, 3, 4, 5, 6, 7, 8, 9, 10, 11, 12, 13, 14, 15, 16, 17, 18, 19] rfl (by decide) rfl rfl rfl rfl rfl rfl hl.1 (Nat.le_of_ble_eq_true rfl) dX8_act_52 ⟨Nat.zero_le _, Nat.zero_le _⟩ (fun H locs hP hD hS => ?_)
          refine lv_goto (tgt := 63) hx hb dX8_act_55 (by decide) ?_
          cases hM
          exact rt_v hx hb hr hlk hP hD hS rfl dX8_act_63
      · replace hM := if_f c3 hM
        refine lv_aload_n hx hb dX8_act_35 rfl (lv_at hl 0 rfl) ?_
        refine lv_iload_n hx hb dX8_act_36 rfl (lv_at hl 1 rfl) ?_
        obtain ⟨r7, hcr7, hM⟩ := ob_use hM
        refine cl_V (As := [.int a1]) (rest := []) (wM0 ad o_X r7.1 r7.2.1 r7.2.2.1 r7.2.2.2.1 r7.2.2.2.2 o_E o_Q o_V o_I ++ wMC cI ad o_C ++ wMX cI ad o_X ++ wMN cI ad r7.2.1 ++ wMT cI ad r7.2.2.1 ++ wMU cI ad r7.2.2.2.1 ++ wME cI ad o_E) [] ⟨hx, hb, hml, hown, hts⟩ (c_Model_actStatement l D cI sd ad o_E o_Q o_V o_I o_C o_X o_L o_N o_T o_U o_O a1 r7 hcr7) (cwV2 hts q1309 mvX8_actStatement rfl rfl ⟨(Nat.le_of_ble_eq_true rfl), (Nat.le_of_ble_eq_true rfl)⟩) hK hE hA hP hD hS 0 (T := TX8) (N := 48) (ci := 8) rfl rfl [0, 1, 2, 3, 4, 5, 6, 7, 8, 9, 10, 11, 12, 13, 14, 15] rfl (by decide) rfl rfl rfl rfl rfl rfl hl.1 (Nat.le_of_ble_eq_true rfl) dX8_act_37 ⟨Nat.zero_le _, Nat.zero_le _⟩ (fun H locs hP hD hS => ?_)
        refine lv_goto (tgt := 63) hx hb dX8_act_40 (by decide) ?_
        cases hM
        exact rt_v hx hb hr hlk hP hD hS rfl dX8_act_63
    · replace hM := if_f c2 hM
      refine lv_aload_n hx hb dX8_act_20 rfl (lv_at hl 0 rfl) ?_
      refine lv_iload_n hx hb dX8_act_21 rfl (lv_at hl 1 rfl) ?_
      obtain ⟨r8, hcr8, hM⟩ := ob_use hM
      refine cl_V (As := [.int a1]) (rest := []) (wM0 ad o_X r8.1 r8.2.1 r8.2.2.1 r8.2.2.2.1 r8.2.2.2.2 o_E o_Q o_V o_I ++ wMC cI ad o_C ++ wMX cI ad o_X ++ wMN cI ad r8.2.1 ++ wMT cI ad r8.2.2.1 ++ wMU cI ad r8.2.2.2.1 ++ wME cI ad o_E) [] ⟨hx, hb, hml, hown, hts⟩ (c_Model_actBlock l D cI sd ad o_E o_Q o_V o_I o_C o_X o_L o_N o_T o_U o_O a1 r8 hcr8) (cwV2 hts q1237 mvX8_actBlock rfl rfl ⟨(Nat.le_of_ble_eq_true rfl), (Nat.le_of_ble_eq_true rfl)⟩) hK hE hA hP hD hS 0 (T := TX8) (N := 48) (ci := 8) rfl rfl [0, 1, 2, 3, 4, 5, 6, 7, 8, 9, 10, 11, 12, 13, 14, 15] rfl (by decide) rfl rfl rfl rfl rfl rfl hl.1 (Nat.le_of_ble_eq_true rfl) dX8_act_22 ⟨Nat.zero_le _, Nat.zero_le _⟩ (fun H locs hP hD hS => ?_)
      refine lv_goto (tgt := 63) hx hb dX8_act_25 (by decide) ?_
      cases hM
      exact rt_v hx hb hr hlk hP hD hS rfl dX8_act_63
  · replace hM := if_f c1 hM
    refine lv_aload_n hx hb dX8_act_6 rfl (lv_at hl 0 rfl) ?_
    refine lv_iload_n hx hb dX8_act_7 rfl (lv_at hl 1 rfl) ?_
    obtain ⟨r9, hcr9, hM⟩ := ob_use hM
    refine cl_V (As := [.int a1]) (rest := []) (wM0 ad o_X r9.1 r9.2 o_T o_U o_O o_E o_Q o_V o_I ++ wMC cI ad o_C ++ wMX cI ad o_X ++ wMN cI ad r9.2 ++ wMT cI ad o_T ++ wMU cI ad o_U ++ wME cI ad o_E) [] ⟨hx, hb, hml, hown, hts⟩ (c_Model_pass l D cI sd ad o_T o_U o_O o_E o_Q o_V o_I o_C o_X o_L o_N a1 r9 hcr9) (cwV2 hts q1229 mvX8_pass rfl rfl ⟨(Nat.le_of_ble_eq_true rfl), (Nat.le_of_ble_eq_true rfl)⟩) hK hE hA hP hD hS 0 (T := TX8) (N := 48) (ci := 8) rfl rfl [0, 1, 2, 3, 4, 5, 6, 7] rfl (by decide) rfl rfl rfl rfl rfl rfl hl.1 (Nat.le_of_ble_eq_true rfl) dX8_act_8 ⟨Nat.zero_le _, Nat.zero_le _⟩ (fun H locs hP hD hS => ?_)
    refine lv_goto (tgt := 63) hx hb dX8_act_11 (by decide) ?_
    cases hM
    exact rt_v hx hb hr hlk hP hD hS rfl dX8_act_63

set_option maxHeartbeats 4000000 in
set_option maxRecDepth 100000 in
theorem c_Model_following (l : Launch) (D : va_G) (cI : ClassId) (sd : Nat → Nat) (ad : Nat → Nat) (o_C : S_MC) (o_X : S_MX) (o_L : S_ML) (o_N : S_MN) (o_U : S_MU) (o_O : S_MO) (o_E : S_ME) (o_Q : S_MQ) (o_V : S_MV) (o_I : S_MI) (o_T : S_MT) (a1 : Int32) (res : Int32) (hM : f_Model_following o_T a1 = some res) : Ctr l D cI sd yX8_following (wsM yX8_following cX8_following 3 (Option.some Jvm.ClassFile.FieldType.int)) { frames := 0, cells := 0, slots := 0, locals := 0 } [.ref (ad 100), .int a1] (wM0 ad o_X o_L o_N o_T o_U o_O o_E o_Q o_V o_I ++ wMT cI ad o_T) (wM0 ad o_X o_L o_N o_T o_U o_O o_E o_Q o_V o_I ++ wMT cI ad o_T) (some (.int res)) := by
  refine Ctr.of (cc := cX8_following) (maxL := 3) (own := RX8) (by decide +kernel) rfl rfl (Nat.le_of_ble_eq_true rfl) ?_
  intro p e s m below meth c A ls hx hb hr hml hown hts hlk hK hE hA hP hD hS hl
  have hl : lv_has ls 3 [(0, .ref (ad 100)), (1, .int a1)] := hl
  unfold f_Model_following at hM
  refine lv_iload_n hx hb dX8_following_0 rfl (lv_at hl 1 rfl) ?_
  refine lv_istore_n (lv' := [(2, .int a1), (0, .ref (ad 100)), (1, .int a1)]) hx hb dX8_following_1 rfl hl (by decide) rfl (fun ls hl => ?_)
  refine lv_aload_n hx hb dX8_following_2 rfl (lv_at hl 1 rfl) ?_
  refine va_get (D := D) (ci := 8) (v := .ref (ad 112)) (C := RX8) (T := TX8) (N := 48) hx hb hts layX8 hown hK hP 0 rfl rfl 21 (by decide) (hts _ (inA q999)) (fun _ h9 => h9) rfl dX8_following_3 ?_
  refine lv_iload_n hx hb dX8_following_6 rfl (lv_at hl 0 rfl) ?_
  obtain ⟨b1, hM⟩ := gd_use hM
  refine va_iald hx hb hK hP 5 0 rfl rfl b1 dX8_following_7 ?_
  refine lv_iconst (v := (-1)) hx hb dX8_following_8 (by decide) ?_
  refine lv_icmp_eq (tgt := 19) hx hb dX8_following_9 (by decide) (fun c2 => ?_) (fun c2 => ?_)
  · replace hM := if_t c2 hM
    have lp_L19 : ∀ (o_T_L19 : S_MT) (n : Nat) (v2_L19 : Int32) (out_L19 : Int32) (H : Heap) (locs : List Loc) (ls : Array Slot), f_Model_following_L19 o_T_L19 n v2_L19 = some out_L19 → va_P D vwCl (wM0 ad o_X o_L o_N o_T_L19 o_U o_O o_E o_Q o_V o_I ++ wMT cI ad o_T_L19) H → va_D A (wM0 ad o_X o_L o_N o_T_L19 o_U o_O o_E o_Q o_V o_I ++ wMT cI ad o_T_L19) → va_S A s.heap H locs → lv_has ls 3 [(2, .int v2_L19), (0, .ref (ad 100))] → (∀ (H : Heap) (locs : List Loc) (ls : Array Slot), va_P D vwCl (wM0 ad o_X o_L o_N o_T_L19 o_U o_O o_E o_Q o_V o_I ++ wMT cI ad o_T_L19) H → va_D A (wM0 ad o_X o_L o_N o_T_L19 o_U o_O o_E o_Q o_V o_I ++ wMT cI ad o_T_L19) → va_S A s.heap H locs → lv_has ls 3 [(2, .int out_L19), (0, .ref (ad 100))] → W p l e { frames := 0, cells := 0, slots := 0, locals := 0 } s m [.ref (ad 100), .int a1].toArray below meth c H locs 0 0 (MQ below (CQ D A (wM0 ad o_X o_L o_N o_T o_U o_O o_E o_Q o_V o_I ++ wMT cI ad o_T) (some (.int res))) [.ref (ad 100), .int a1].toArray s 0 0 A) (F0 m 44 ls [])) → W p l e { frames := 0, cells := 0, slots := 0, locals := 0 } s m [.ref (ad 100), .int a1].toArray below meth c H locs 0 0 (MQ below (CQ D A (wM0 ad o_X o_L o_N o_T o_U o_O o_E o_Q o_V o_I ++ wMT cI ad o_T) (some (.int res))) [.ref (ad 100), .int a1].toArray s 0 0 A) (F0 m 19 ls []) := by
      intro o_T_L19 n
      induction n with
      | zero => intro v2_L19 out_L19 H locs ls hM; exact absurd (show none = some _ from hM) (by simp)
      | succ n ih_L19 =>
        intro v2_L19 out_L19 H locs ls hM hP hD hS hl kx_L19
        rw [f_Model_following_L19] at hM
        refine lv_iload_n hx hb dX8_following_19 rfl (lv_at hl 0 rfl) ?_
        refine lv_iconst (v := (-1)) hx hb dX8_following_20 (by decide) ?_
        refine lv_icmp_eq (tgt := 44) hx hb dX8_following_21 (by decide) (fun c1291 => ?_) (fun c1291 => ?_)
        · replace hM := if_t c1291 hM
          cases hM
          exact kx_L19 _ _ _ hP hD hS (lv_sub hl [0, 1] rfl)
        · replace hM := if_f c1291 hM
          refine lv_aload_n hx hb dX8_following_24 rfl (lv_at hl 1 rfl) ?_
          refine va_get (D := D) (ci := 8) (v := .ref (ad 114)) (C := RX8) (T := TX8) (N := 48) hx hb hts layX8 hown hK hP 0 rfl rfl 23 (by decide) (hts _ (inA q1001)) (fun _ h9 => h9) rfl dX8_following_25 ?_
          refine lv_iload_n hx hb dX8_following_28 rfl (lv_at hl 0 rfl) ?_
          obtain ⟨b1292, hM⟩ := gd_use hM
          refine va_iald hx hb hK hP 7 0 rfl rfl b1292 dX8_following_29 ?_
          refine lv_iconst (v := (-1)) hx hb dX8_following_30 (by decide) ?_
          refine lv_icmp_ne (tgt := 44) hx hb dX8_following_31 (by decide) (fun c1293 => ?_) (fun c1293 => ?_)
          · replace hM := if_f c1293 hM
            cases hM
            exact kx_L19 _ _ _ hP hD hS (lv_sub hl [0, 1] rfl)
          · replace hM := if_t c1293 hM
            refine lv_aload_n hx hb dX8_following_34 rfl (lv_at hl 1 rfl) ?_
            refine va_get (D := D) (ci := 8) (v := .ref (ad 111)) (C := RX8) (T := TX8) (N := 48) hx hb hts layX8 hown hK hP 0 rfl rfl 20 (by decide) (hts _ (inA q998)) (fun _ h9 => h9) rfl dX8_following_35 ?_
            refine lv_iload_n hx hb dX8_following_38 rfl (lv_at hl 0 rfl) ?_
            obtain ⟨b1294, hM⟩ := gd_use hM
            refine va_iald hx hb hK hP 4 0 rfl rfl b1294 dX8_following_39 ?_
            refine lv_topi (fun x1295 ex1295 => ?_)
            replace hM := nm_use ex1295 hM
            refine lv_istore_n (lv' := [(2, .int x1295), (0, .ref (ad 100))]) hx hb dX8_following_40 rfl hl (by decide) rfl (fun ls hl => ?_)
            refine lv_goto (tgt := 19) hx hb dX8_following_41 (by decide) ?_
            exact ih_L19 x1295 out_L19 _ _ _ hM hP hD hS (lv_sub hl [0, 1] rfl) kx_L19
    obtain ⟨r3, hcr3, hM⟩ := ob_use hM
    refine lp_L19 o_T FU a1 r3 _ _ _ hcr3 hP hD hS (lv_sub hl [0, 1] rfl) (fun H locs ls hP hD hS hl => ?_)
    refine lv_iload_n hx hb dX8_following_44 rfl (lv_at hl 0 rfl) ?_
    refine lv_iconst (v := (-1)) hx hb dX8_following_45 (by decide) ?_
    refine lv_icmp_ne (tgt := 53) hx hb dX8_following_46 (by decide) (fun c4 => ?_) (fun c4 => ?_)
    · replace hM := if_f c4 hM
      refine lv_aload_n hx hb dX8_following_53 rfl (lv_at hl 1 rfl) ?_
      refine va_get (D := D) (ci := 8) (v := .ref (ad 114)) (C := RX8) (T := TX8) (N := 48) hx hb hts layX8 hown hK hP 0 rfl rfl 23 (by decide) (hts _ (inA q1001)) (fun _ h9 => h9) rfl dX8_following_54 ?_
      refine lv_iload_n hx hb dX8_following_57 rfl (lv_at hl 0 rfl) ?_
      obtain ⟨b5, hM⟩ := gd_use hM
      refine va_iald hx hb hK hP 7 0 rfl rfl b5 dX8_following_58 ?_
      cases hM
      exact rt_i hx hb hr hlk hP hD hS rfl dX8_following_59
    · replace hM := if_t c4 hM
      refine lv_iconst (v := (-1)) hx hb dX8_following_49 (by decide) ?_
      refine lv_goto (tgt := 59) hx hb dX8_following_50 (by decide) ?_
      cases hM
      exact rt_i hx hb hr hlk hP hD hS rfl dX8_following_59
  · replace hM := if_f c2 hM
    refine lv_aload_n hx hb dX8_following_12 rfl (lv_at hl 1 rfl) ?_
    refine va_get (D := D) (ci := 8) (v := .ref (ad 112)) (C := RX8) (T := TX8) (N := 48) hx hb hts layX8 hown hK hP 0 rfl rfl 21 (by decide) (hts _ (inA q999)) (fun _ h9 => h9) rfl dX8_following_13 ?_
    refine lv_iload_n hx hb dX8_following_16 rfl (lv_at hl 0 rfl) ?_
    obtain ⟨b6, hM⟩ := gd_use hM
    refine va_iald hx hb hK hP 5 0 rfl rfl b6 dX8_following_17 ?_
    cases hM
    exact rt_i hx hb hr hlk hP hD hS rfl dX8_following_18

set_option maxHeartbeats 4000000 in
set_option maxRecDepth 100000 in
theorem c_Model_number (l : Launch) (D : va_G) (cI : ClassId) (sd : Nat → Nat) (ad : Nat → Nat) (o_C : S_MC) (o_X : S_MX) (o_L : S_ML) (o_N : S_MN) (o_U : S_MU) (o_O : S_MO) (o_E : S_ME) (o_V : S_MV) (o_I : S_MI) (o_T : S_MT) (o_Q : S_MQ) (res : S_MQ) (hM : f_Model_number o_T o_Q = some res) : Ctr l D cI sd yX8_number (wsM yX8_number cX8_number 2 (Option.none : Option Jvm.ClassFile.FieldType)) { frames := 1, cells := 0, slots := 0, locals := 22 } [.ref (ad 100)] (wM0 ad o_X o_L o_N o_T o_U o_O o_E o_Q o_V o_I ++ wMT cI ad o_T ++ wMQ cI ad o_Q) (wM0 ad o_X o_L o_N o_T o_U o_O o_E res o_V o_I ++ wMT cI ad o_T ++ wMQ cI ad res) none := by
  refine Ctr.of (cc := cX8_number) (maxL := 2) (own := RX8) (by decide +kernel) rfl rfl (Nat.le_of_ble_eq_true rfl) ?_
  intro p e s m below meth c A ls hx hb hr hml hown hts hlk hK hE hA hP hD hS hl
  have hl : lv_has ls 2 [(0, .ref (ad 100))] := hl
  unfold f_Model_number at hM
  refine lv_aload_n hx hb dX8_number_0 rfl (lv_at hl 0 rfl) ?_
  refine lv_iconst (v := 0) hx hb dX8_number_1 (by decide) ?_
  refine va_put (D := D) (ci := 8) (v := .int 0) (ty := .int) (C := RX8) (T := TX8) (N := 48) hx hb hts layX8 tyX8 tyX8_ok nmX8 hown hK hP hD hS 0 rfl rfl 40 (by decide) (hts _ (inA q1018)) (fun _ h9 => h9) rfl (by decide +kernel) rfl rfl (Nat.le_of_ble_eq_true rfl) dX8_number_2 (fun H locs hP hD hS => ?_)
  have hP : va_P D vwCl (wM0 ad o_X o_L o_N o_T o_U o_O o_E (0, o_Q.2) o_V o_I ++ wMT cI ad o_T ++ wMQ cI ad (0, o_Q.2)) H := hP
  have hD : va_D A (wM0 ad o_X o_L o_N o_T o_U o_O o_E (0, o_Q.2) o_V o_I ++ wMT cI ad o_T ++ wMQ cI ad (0, o_Q.2)) := hD
  refine lv_iconst (v := 0) hx hb dX8_number_5 (by decide) ?_
  refine lv_istore_n (lv' := [(1, .int 0), (0, .ref (ad 100))]) hx hb dX8_number_6 rfl hl (by decide) rfl (fun ls hl => ?_)
  have lp_L7 : ∀ (o_T_L7 : S_MT) (n : Nat) (v1_L7 : Int32) (o_Q_L7 : S_MQ) (out_L7 : S_MQ) (H : Heap) (locs : List Loc) (ls : Array Slot), f_Model_number_L7 o_T_L7 n v1_L7 o_Q_L7 = some out_L7 → va_P D vwCl (wM0 ad o_X o_L o_N o_T_L7 o_U o_O o_E o_Q_L7 o_V o_I ++ wMT cI ad o_T_L7 ++ wMQ cI ad o_Q_L7) H → va_D A (wM0 ad o_X o_L o_N o_T_L7 o_U o_O o_E o_Q_L7 o_V o_I ++ wMT cI ad o_T_L7 ++ wMQ cI ad o_Q_L7) → va_S A s.heap H locs → lv_has ls 2 [(1, .int v1_L7), (0, .ref (ad 100))] → (∀ (H : Heap) (locs : List Loc) (ls : Array Slot), va_P D vwCl (wM0 ad o_X o_L o_N o_T_L7 o_U o_O o_E out_L7 o_V o_I ++ wMT cI ad o_T_L7 ++ wMQ cI ad out_L7) H → va_D A (wM0 ad o_X o_L o_N o_T_L7 o_U o_O o_E out_L7 o_V o_I ++ wMT cI ad o_T_L7 ++ wMQ cI ad out_L7) → va_S A s.heap H locs → lv_has ls 2 [(0, .ref (ad 100))] → W p l e { frames := 1, cells := 0, slots := 0, locals := 22 } s m [.ref (ad 100)].toArray below meth c H locs 0 0 (MQ below (CQ D A (wM0 ad o_X o_L o_N o_T o_U o_O o_E res o_V o_I ++ wMT cI ad o_T ++ wMQ cI ad res) none) [.ref (ad 100)].toArray s 0 0 A) (F0 m 51 ls [])) → W p l e { frames := 1, cells := 0, slots := 0, locals := 22 } s m [.ref (ad 100)].toArray below meth c H locs 0 0 (MQ below (CQ D A (wM0 ad o_X o_L o_N o_T o_U o_O o_E res o_V o_I ++ wMT cI ad o_T ++ wMQ cI ad res) none) [.ref (ad 100)].toArray s 0 0 A) (F0 m 7 ls []) := by
    intro o_T_L7 n
    induction n with
    | zero => intro v1_L7 o_Q_L7 out_L7 H locs ls hM; exact absurd (show none = some _ from hM) (by simp)
    | succ n ih_L7 =>
      intro v1_L7 o_Q_L7 out_L7 H locs ls hM hP hD hS hl kx_L7
      rw [f_Model_number_L7] at hM
      refine lv_iload_n hx hb dX8_number_7 rfl (lv_at hl 0 rfl) ?_
      refine lv_iconst (v := (-1)) hx hb dX8_number_8 (by decide) ?_
      refine lv_icmp_eq (tgt := 51) hx hb dX8_number_9 (by decide) (fun c1171 => ?_) (fun c1171 => ?_)
      · replace hM := if_t c1171 hM
        cases hM
        exact kx_L7 _ _ _ hP hD hS (lv_sub hl [1] rfl)
      · replace hM := if_f c1171 hM
        refine lv_aload_n hx hb dX8_number_12 rfl (lv_at hl 1 rfl) ?_
        refine va_get (D := D) (ci := 8) (v := .ref (ad 120)) (C := RX8) (T := TX8) (N := 48) hx hb hts layX8 hown hK hP 0 rfl rfl 41 (by decide) (hts _ (inA q1019)) (fun _ h9 => h9) rfl dX8_number_13 ?_
        refine lv_aload_n hx hb dX8_number_16 rfl (lv_at hl 1 rfl) ?_
        refine va_get (D := D) (ci := 8) (v := .int o_Q_L7.1) (C := RX8) (T := TX8) (N := 48) hx hb hts layX8 hown hK hP 0 rfl rfl 40 (by decide) (hts _ (inA q1018)) (fun _ h9 => h9) rfl dX8_number_17 ?_
        refine lv_iload_n hx hb dX8_number_20 rfl (lv_at hl 0 rfl) ?_
        obtain ⟨b1172, hM⟩ := gd_use hM
        refine va_iast hx hb hK hP hD hS 8 0 rfl rfl b1172 dX8_number_21 (fun H locs hP hD hS => ?_)
        have hP : va_P D vwCl (wM0 ad o_X o_L o_N o_T_L7 o_U o_O o_E (o_Q_L7.1, upd o_Q_L7.2.1 o_Q_L7.1.toNatClampNeg v1_L7, o_Q_L7.2.2) o_V o_I ++ wMT cI ad o_T_L7 ++ wMQ cI ad (o_Q_L7.1, upd o_Q_L7.2.1 o_Q_L7.1.toNatClampNeg v1_L7, o_Q_L7.2.2)) H := hP
        have hD : va_D A (wM0 ad o_X o_L o_N o_T_L7 o_U o_O o_E (o_Q_L7.1, upd o_Q_L7.2.1 o_Q_L7.1.toNatClampNeg v1_L7, o_Q_L7.2.2) o_V o_I ++ wMT cI ad o_T_L7 ++ wMQ cI ad (o_Q_L7.1, upd o_Q_L7.2.1 o_Q_L7.1.toNatClampNeg v1_L7, o_Q_L7.2.2)) := hD
        refine lv_aload_n hx hb dX8_number_22 rfl (lv_at hl 1 rfl) ?_
        refine va_get (D := D) (ci := 8) (v := .ref (ad 121)) (C := RX8) (T := TX8) (N := 48) hx hb hts layX8 hown hK hP 0 rfl rfl 42 (by decide) (hts _ (inA q1020)) (fun _ h9 => h9) rfl dX8_number_23 ?_
        refine lv_iload_n hx hb dX8_number_26 rfl (lv_at hl 0 rfl) ?_
        refine lv_aload_n hx hb dX8_number_27 rfl (lv_at hl 1 rfl) ?_
        refine va_get (D := D) (ci := 8) (v := .int o_Q_L7.1) (C := RX8) (T := TX8) (N := 48) hx hb hts layX8 hown hK hP 0 rfl rfl 40 (by decide) (hts _ (inA q1018)) (fun _ h9 => h9) rfl dX8_number_28 ?_
        obtain ⟨b1173, hM⟩ := gd_use hM
        refine va_iast hx hb hK hP hD hS 9 0 rfl rfl b1173 dX8_number_31 (fun H locs hP hD hS => ?_)
        have hP : va_P D vwCl (wM0 ad o_X o_L o_N o_T_L7 o_U o_O o_E (o_Q_L7.1, upd o_Q_L7.2.1 o_Q_L7.1.toNatClampNeg v1_L7, upd o_Q_L7.2.2 v1_L7.toNatClampNeg o_Q_L7.1) o_V o_I ++ wMT cI ad o_T_L7 ++ wMQ cI ad (o_Q_L7.1, upd o_Q_L7.2.1 o_Q_L7.1.toNatClampNeg v1_L7, upd o_Q_L7.2.2 v1_L7.toNatClampNeg o_Q_L7.1)) H := hP
        have hD : va_D A (wM0 ad o_X o_L o_N o_T_L7 o_U o_O o_E (o_Q_L7.1, upd o_Q_L7.2.1 o_Q_L7.1.toNatClampNeg v1_L7, upd o_Q_L7.2.2 v1_L7.toNatClampNeg o_Q_L7.1) o_V o_I ++ wMT cI ad o_T_L7 ++ wMQ cI ad (o_Q_L7.1, upd o_Q_L7.2.1 o_Q_L7.1.toNatClampNeg v1_L7, upd o_Q_L7.2.2 v1_L7.toNatClampNeg o_Q_L7.1)) := hD
        refine lv_aload_n hx hb dX8_number_32 rfl (lv_at hl 1 rfl) ?_
        refine lv_dup hx hb dX8_number_33 rfl ?_
        refine va_get (D := D) (ci := 8) (v := .int o_Q_L7.1) (C := RX8) (T := TX8) (N := 48) hx hb hts layX8 hown hK hP 0 rfl rfl 40 (by decide) (hts _ (inA q1018)) (fun _ h9 => h9) rfl dX8_number_34 ?_
        refine lv_iconst (v := 1) hx hb dX8_number_37 (by decide) ?_
        refine lv_iadd hx hb dX8_number_38 ?_
        refine va_put (D := D) (ci := 8) (v := .int (o_Q_L7.1 + 1)) (ty := .int) (C := RX8) (T := TX8) (N := 48) hx hb hts layX8 tyX8 tyX8_ok nmX8 hown hK hP hD hS 0 rfl rfl 40 (by decide) (hts _ (inA q1018)) (fun _ h9 => h9) rfl (by decide +kernel) rfl rfl (Nat.le_of_ble_eq_true rfl) dX8_number_39 (fun H locs hP hD hS => ?_)
        have hP : va_P D vwCl (wM0 ad o_X o_L o_N o_T_L7 o_U o_O o_E (o_Q_L7.1 + 1, upd o_Q_L7.2.1 o_Q_L7.1.toNatClampNeg v1_L7, upd o_Q_L7.2.2 v1_L7.toNatClampNeg o_Q_L7.1) o_V o_I ++ wMT cI ad o_T_L7 ++ wMQ cI ad (o_Q_L7.1 + 1, upd o_Q_L7.2.1 o_Q_L7.1.toNatClampNeg v1_L7, upd o_Q_L7.2.2 v1_L7.toNatClampNeg o_Q_L7.1)) H := hP
        have hD : va_D A (wM0 ad o_X o_L o_N o_T_L7 o_U o_O o_E (o_Q_L7.1 + 1, upd o_Q_L7.2.1 o_Q_L7.1.toNatClampNeg v1_L7, upd o_Q_L7.2.2 v1_L7.toNatClampNeg o_Q_L7.1) o_V o_I ++ wMT cI ad o_T_L7 ++ wMQ cI ad (o_Q_L7.1 + 1, upd o_Q_L7.2.1 o_Q_L7.1.toNatClampNeg v1_L7, upd o_Q_L7.2.2 v1_L7.toNatClampNeg o_Q_L7.1)) := hD
        refine lv_aload_n hx hb dX8_number_42 rfl (lv_at hl 1 rfl) ?_
        refine lv_iload_n hx hb dX8_number_43 rfl (lv_at hl 0 rfl) ?_
        obtain ⟨r1174, hcr1174, hM⟩ := ob_use hM
        refine cl_V (As := [.int v1_L7]) (rest := []) (wM0 ad o_X o_L o_N o_T_L7 o_U o_O o_E (o_Q_L7.1 + 1, upd o_Q_L7.2.1 o_Q_L7.1.toNatClampNeg v1_L7, upd o_Q_L7.2.2 v1_L7.toNatClampNeg o_Q_L7.1) o_V o_I ++ wMT cI ad o_T_L7 ++ wMQ cI ad (o_Q_L7.1 + 1, upd o_Q_L7.2.1 o_Q_L7.1.toNatClampNeg v1_L7, upd o_Q_L7.2.2 v1_L7.toNatClampNeg o_Q_L7.1)) (.int r1174 :: []) ⟨hx, hb, hml, hown, hts⟩ (c_Model_following l D cI sd ad o_C o_X o_L o_N o_U o_O o_E (o_Q_L7.1 + 1, upd o_Q_L7.2.1 o_Q_L7.1.toNatClampNeg v1_L7, upd o_Q_L7.2.2 v1_L7.toNatClampNeg o_Q_L7.1) o_V o_I o_T_L7 v1_L7 r1174 hcr1174) (cwV2 hts q1488 mvX8_following rfl rfl ⟨(Nat.le_of_ble_eq_true rfl), (Nat.le_of_ble_eq_true rfl)⟩) hK hE hA hP hD hS 0 (T := TX8) (N := 48) (ci := 8) rfl rfl [0, 1, 2, 3, 4, 5, 6, 7] rfl (by decide) rfl rfl rfl rfl rfl rfl hl.1 (Nat.le_of_ble_eq_true rfl) dX8_number_44 ⟨Nat.zero_le _, Nat.zero_le _⟩ (fun H locs hP hD hS => ?_)
        refine lv_istore_n (lv' := [(1, .int r1174), (0, .ref (ad 100))]) hx hb dX8_number_47 rfl hl (by decide) rfl (fun ls hl => ?_)
        refine lv_goto (tgt := 7) hx hb dX8_number_48 (by decide) ?_
        exact ih_L7 r1174 (o_Q_L7.1 + 1, upd o_Q_L7.2.1 o_Q_L7.1.toNatClampNeg v1_L7, upd o_Q_L7.2.2 v1_L7.toNatClampNeg o_Q_L7.1) out_L7 _ _ _ hM hP hD hS (lv_sub hl [0, 1] rfl) kx_L7
  obtain ⟨r1, hcr1, hM⟩ := ob_use hM
  refine lp_L7 o_T FU 0 (0, o_Q.2) r1 _ _ _ hcr1 hP hD hS (lv_sub hl [0, 1] rfl) (fun H locs ls hP hD hS hl => ?_)
  cases hM
  exact rt_v hx hb hr hlk hP hD hS rfl dX8_number_51

set_option maxHeartbeats 4000000 in
set_option maxRecDepth 100000 in
theorem c_Model_read (l : Launch) (D : va_G) (cI : ClassId) (sd : Nat → Nat) (ad : Nat → Nat) (o_V : S_MV) (o_I : S_MI) (o_C : S_MC) (o_X : S_MX) (o_L : S_ML) (o_N : S_MN) (o_T : S_MT) (o_U : S_MU) (o_O : S_MO) (o_E : S_ME) (o_Q : S_MQ) (res : Int32 × S_ML × S_MN × S_MT × S_MU × S_MO × S_ME × S_MQ) (hM : f_Model_read o_C o_X o_L o_N o_T o_U o_O o_E o_Q = some res) : Ctr l D cI sd yX8_read (wsM yX8_read cX8_read 1 (Option.some Jvm.ClassFile.FieldType.int)) { frames := 11, cells := 0, slots := 0, locals := 237 } [.ref (ad 100)] (wM0 ad o_X o_L o_N o_T o_U o_O o_E o_Q o_V o_I ++ wMC cI ad o_C ++ wMX cI ad o_X ++ wMN cI ad o_N ++ wMT cI ad o_T ++ wMU cI ad o_U ++ wME cI ad o_E ++ wMQ cI ad o_Q) (wM0 ad o_X res.2.1 res.2.2.1 res.2.2.2.1 res.2.2.2.2.1 res.2.2.2.2.2.1 res.2.2.2.2.2.2.1 res.2.2.2.2.2.2.2 o_V o_I ++ wMC cI ad o_C ++ wMX cI ad o_X ++ wMN cI ad res.2.2.1 ++ wMT cI ad res.2.2.2.1 ++ wMU cI ad res.2.2.2.2.1 ++ wME cI ad res.2.2.2.2.2.2.1 ++ wMQ cI ad res.2.2.2.2.2.2.2) (some (.int res.1)) := by
  refine Ctr.of (cc := cX8_read) (maxL := 1) (own := RX8) (by decide +kernel) rfl rfl (Nat.le_of_ble_eq_true rfl) ?_
  intro p e s m below meth c A ls hx hb hr hml hown hts hlk hK hE hA hP hD hS hl
  have hl : lv_has ls 1 [(0, .ref (ad 100))] := hl
  unfold f_Model_read at hM
  refine lv_aload_n hx hb dX8_read_0 rfl (lv_at hl 0 rfl) ?_
  refine lv_iconst (v := 0) hx hb dX8_read_1 (by decide) ?_
  refine va_put (D := D) (ci := 8) (v := .int 0) (ty := .int) (C := RX8) (T := TX8) (N := 48) hx hb hts layX8 tyX8 tyX8_ok nmX8 hown hK hP hD hS 0 rfl rfl 11 (by decide) (hts _ (inA q989)) (fun _ h9 => h9) rfl (by decide +kernel) rfl rfl (Nat.le_of_ble_eq_true rfl) dX8_read_2 (fun H locs hP hD hS => ?_)
  have hP : va_P D vwCl (wM0 ad o_X (o_L.1, o_L.2.1, o_L.2.2.1, o_L.2.2.2.1, o_L.2.2.2.2.1, 0, o_L.2.2.2.2.2.2) o_N o_T o_U o_O o_E o_Q o_V o_I ++ wMC cI ad o_C ++ wMX cI ad o_X ++ wMN cI ad o_N ++ wMT cI ad o_T ++ wMU cI ad o_U ++ wME cI ad o_E ++ wMQ cI ad o_Q) H := hP
  have hD : va_D A (wM0 ad o_X (o_L.1, o_L.2.1, o_L.2.2.1, o_L.2.2.2.1, o_L.2.2.2.2.1, 0, o_L.2.2.2.2.2.2) o_N o_T o_U o_O o_E o_Q o_V o_I ++ wMC cI ad o_C ++ wMX cI ad o_X ++ wMN cI ad o_N ++ wMT cI ad o_T ++ wMU cI ad o_U ++ wME cI ad o_E ++ wMQ cI ad o_Q) := hD
  refine lv_aload_n hx hb dX8_read_5 rfl (lv_at hl 0 rfl) ?_
  refine lv_iconst (v := (-1)) hx hb dX8_read_6 (by decide) ?_
  refine va_put (D := D) (ci := 8) (v := .int (-1)) (ty := .int) (C := RX8) (T := TX8) (N := 48) hx hb hts layX8 tyX8 tyX8_ok nmX8 hown hK hP hD hS 0 rfl rfl 12 (by decide) (hts _ (inA q990)) (fun _ h9 => h9) rfl (by decide +kernel) rfl rfl (Nat.le_of_ble_eq_true rfl) dX8_read_7 (fun H locs hP hD hS => ?_)
  have hP : va_P D vwCl (wM0 ad o_X (o_L.1, o_L.2.1, o_L.2.2.1, o_L.2.2.2.1, o_L.2.2.2.2.1, 0, (-1)) o_N o_T o_U o_O o_E o_Q o_V o_I ++ wMC cI ad o_C ++ wMX cI ad o_X ++ wMN cI ad o_N ++ wMT cI ad o_T ++ wMU cI ad o_U ++ wME cI ad o_E ++ wMQ cI ad o_Q) H := hP
  have hD : va_D A (wM0 ad o_X (o_L.1, o_L.2.1, o_L.2.2.1, o_L.2.2.2.1, o_L.2.2.2.2.1, 0, (-1)) o_N o_T o_U o_O o_E o_Q o_V o_I ++ wMC cI ad o_C ++ wMX cI ad o_X ++ wMN cI ad o_N ++ wMT cI ad o_T ++ wMU cI ad o_U ++ wME cI ad o_E ++ wMQ cI ad o_Q) := hD
  refine lv_aload_n hx hb dX8_read_10 rfl (lv_at hl 0 rfl) ?_
  refine lv_iconst (v := 0) hx hb dX8_read_11 (by decide) ?_
  refine va_put (D := D) (ci := 8) (v := .int 0) (ty := .int) (C := RX8) (T := TX8) (N := 48) hx hb hts layX8 tyX8 tyX8_ok nmX8 hown hK hP hD hS 0 rfl rfl 13 (by decide) (hts _ (inA q991)) (fun _ h9 => h9) rfl (by decide +kernel) rfl rfl (Nat.le_of_ble_eq_true rfl) dX8_read_12 (fun H locs hP hD hS => ?_)
  have hP : va_P D vwCl (wM0 ad o_X (o_L.1, o_L.2.1, o_L.2.2.1, o_L.2.2.2.1, o_L.2.2.2.2.1, 0, (-1)) (0, o_N.2) o_T o_U o_O o_E o_Q o_V o_I ++ wMC cI ad o_C ++ wMX cI ad o_X ++ wMN cI ad (0, o_N.2) ++ wMT cI ad o_T ++ wMU cI ad o_U ++ wME cI ad o_E ++ wMQ cI ad o_Q) H := hP
  have hD : va_D A (wM0 ad o_X (o_L.1, o_L.2.1, o_L.2.2.1, o_L.2.2.2.1, o_L.2.2.2.2.1, 0, (-1)) (0, o_N.2) o_T o_U o_O o_E o_Q o_V o_I ++ wMC cI ad o_C ++ wMX cI ad o_X ++ wMN cI ad (0, o_N.2) ++ wMT cI ad o_T ++ wMU cI ad o_U ++ wME cI ad o_E ++ wMQ cI ad o_Q) := hD
  refine lv_aload_n hx hb dX8_read_15 rfl (lv_at hl 0 rfl) ?_
  refine va_get (D := D) (ci := 8) (v := .ref (ad 106)) (C := RX8) (T := TX8) (N := 48) hx hb hts layX8 hown hK hP 0 rfl rfl 14 (by decide) (hts _ (inA q992)) (fun _ h9 => h9) rfl dX8_read_16 ?_
  refine lv_iconst (v := 0) hx hb dX8_read_19 (by decide) ?_
  refine lv_iconst (v := 0) hx hb dX8_read_20 (by decide) ?_
  obtain ⟨b1, hM⟩ := gd_use hM
  refine va_iast hx hb hK hP hD hS 6 0 rfl rfl b1 dX8_read_21 (fun H locs hP hD hS => ?_)
  have hP : va_P D vwCl (wM0 ad o_X (o_L.1, o_L.2.1, o_L.2.2.1, o_L.2.2.2.1, o_L.2.2.2.2.1, 0, (-1)) (0, upd o_N.2.1 (0 : Int32).toNatClampNeg 0, o_N.2.2) o_T o_U o_O o_E o_Q o_V o_I ++ wMC cI ad o_C ++ wMX cI ad o_X ++ wMN cI ad (0, upd o_N.2.1 (0 : Int32).toNatClampNeg 0, o_N.2.2) ++ wMT cI ad o_T ++ wMU cI ad o_U ++ wME cI ad o_E ++ wMQ cI ad o_Q) H := hP
  have hD : va_D A (wM0 ad o_X (o_L.1, o_L.2.1, o_L.2.2.1, o_L.2.2.2.1, o_L.2.2.2.2.1, 0, (-1)) (0, upd o_N.2.1 (0 : Int32).toNatClampNeg 0, o_N.2.2) o_T o_U o_O o_E o_Q o_V o_I ++ wMC cI ad o_C ++ wMX cI ad o_X ++ wMN cI ad (0, upd o_N.2.1 (0 : Int32).toNatClampNeg 0, o_N.2.2) ++ wMT cI ad o_T ++ wMU cI ad o_U ++ wME cI ad o_E ++ wMQ cI ad o_Q) := hD
  refine lv_aload_n hx hb dX8_read_22 rfl (lv_at hl 0 rfl) ?_
  refine lv_iconst (v := 0) hx hb dX8_read_23 (by decide) ?_
  refine va_put (D := D) (ci := 8) (v := .int 0) (ty := .int) (C := RX8) (T := TX8) (N := 48) hx hb hts layX8 tyX8 tyX8_ok nmX8 hown hK hP hD hS 0 rfl rfl 16 (by decide) (hts _ (inA q994)) (fun _ h9 => h9) rfl (by decide +kernel) rfl rfl (Nat.le_of_ble_eq_true rfl) dX8_read_24 (fun H locs hP hD hS => ?_)
  have hP : va_P D vwCl (wM0 ad o_X (o_L.1, o_L.2.1, o_L.2.2.1, o_L.2.2.2.1, o_L.2.2.2.2.1, 0, (-1)) (0, upd o_N.2.1 (0 : Int32).toNatClampNeg 0, o_N.2.2) (0, o_T.2) o_U o_O o_E o_Q o_V o_I ++ wMC cI ad o_C ++ wMX cI ad o_X ++ wMN cI ad (0, upd o_N.2.1 (0 : Int32).toNatClampNeg 0, o_N.2.2) ++ wMT cI ad (0, o_T.2) ++ wMU cI ad o_U ++ wME cI ad o_E ++ wMQ cI ad o_Q) H := hP
  have hD : va_D A (wM0 ad o_X (o_L.1, o_L.2.1, o_L.2.2.1, o_L.2.2.2.1, o_L.2.2.2.2.1, 0, (-1)) (0, upd o_N.2.1 (0 : Int32).toNatClampNeg 0, o_N.2.2) (0, o_T.2) o_U o_O o_E o_Q o_V o_I ++ wMC cI ad o_C ++ wMX cI ad o_X ++ wMN cI ad (0, upd o_N.2.1 (0 : Int32).toNatClampNeg 0, o_N.2.2) ++ wMT cI ad (0, o_T.2) ++ wMU cI ad o_U ++ wME cI ad o_E ++ wMQ cI ad o_Q) := hD
  refine lv_aload_n hx hb dX8_read_27 rfl (lv_at hl 0 rfl) ?_
  refine lv_iconst (v := 0) hx hb dX8_read_28 (by decide) ?_
  refine va_put (D := D) (ci := 8) (v := .int 0) (ty := .int) (C := RX8) (T := TX8) (N := 48) hx hb hts layX8 tyX8 tyX8_ok nmX8 hown hK hP hD hS 0 rfl rfl 40 (by decide) (hts _ (inA q1018)) (fun _ h9 => h9) rfl (by decide +kernel) rfl rfl (Nat.le_of_ble_eq_true rfl) dX8_read_29 (fun H locs hP hD hS => ?_)
  have hP : va_P D vwCl (wM0 ad o_X (o_L.1, o_L.2.1, o_L.2.2.1, o_L.2.2.2.1, o_L.2.2.2.2.1, 0, (-1)) (0, upd o_N.2.1 (0 : Int32).toNatClampNeg 0, o_N.2.2) (0, o_T.2) o_U o_O o_E (0, o_Q.2) o_V o_I ++ wMC cI ad o_C ++ wMX cI ad o_X ++ wMN cI ad (0, upd o_N.2.1 (0 : Int32).toNatClampNeg 0, o_N.2.2) ++ wMT cI ad (0, o_T.2) ++ wMU cI ad o_U ++ wME cI ad o_E ++ wMQ cI ad (0, o_Q.2)) H := hP
  have hD : va_D A (wM0 ad o_X (o_L.1, o_L.2.1, o_L.2.2.1, o_L.2.2.2.1, o_L.2.2.2.2.1, 0, (-1)) (0, upd o_N.2.1 (0 : Int32).toNatClampNeg 0, o_N.2.2) (0, o_T.2) o_U o_O o_E (0, o_Q.2) o_V o_I ++ wMC cI ad o_C ++ wMX cI ad o_X ++ wMN cI ad (0, upd o_N.2.1 (0 : Int32).toNatClampNeg 0, o_N.2.2) ++ wMT cI ad (0, o_T.2) ++ wMU cI ad o_U ++ wME cI ad o_E ++ wMQ cI ad (0, o_Q.2)) := hD
  refine lv_aload_n hx hb dX8_read_32 rfl (lv_at hl 0 rfl) ?_
  refine lv_iconst (v := 0) hx hb dX8_read_33 (by decide) ?_
  refine va_put (D := D) (ci := 8) (v := .int 0) (ty := .int) (C := RX8) (T := TX8) (N := 48) hx hb hts layX8 tyX8 tyX8_ok nmX8 hown hK hP hD hS 0 rfl rfl 25 (by decide) (hts _ (inA q1003)) (fun _ h9 => h9) rfl (by decide +kernel) rfl rfl (Nat.le_of_ble_eq_true rfl) dX8_read_34 (fun H locs hP hD hS => ?_)
  have hP : va_P D vwCl (wM0 ad o_X (o_L.1, o_L.2.1, o_L.2.2.1, o_L.2.2.2.1, o_L.2.2.2.2.1, 0, (-1)) (0, upd o_N.2.1 (0 : Int32).toNatClampNeg 0, o_N.2.2) (0, o_T.2) (0, o_U.2) o_O o_E (0, o_Q.2) o_V o_I ++ wMC cI ad o_C ++ wMX cI ad o_X ++ wMN cI ad (0, upd o_N.2.1 (0 : Int32).toNatClampNeg 0, o_N.2.2) ++ wMT cI ad (0, o_T.2) ++ wMU cI ad (0, o_U.2) ++ wME cI ad o_E ++ wMQ cI ad (0, o_Q.2)) H := hP
  have hD : va_D A (wM0 ad o_X (o_L.1, o_L.2.1, o_L.2.2.1, o_L.2.2.2.1, o_L.2.2.2.2.1, 0, (-1)) (0, upd o_N.2.1 (0 : Int32).toNatClampNeg 0, o_N.2.2) (0, o_T.2) (0, o_U.2) o_O o_E (0, o_Q.2) o_V o_I ++ wMC cI ad o_C ++ wMX cI ad o_X ++ wMN cI ad (0, upd o_N.2.1 (0 : Int32).toNatClampNeg 0, o_N.2.2) ++ wMT cI ad (0, o_T.2) ++ wMU cI ad (0, o_U.2) ++ wME cI ad o_E ++ wMQ cI ad (0, o_Q.2)) := hD
  refine lv_aload_n hx hb dX8_read_37 rfl (lv_at hl 0 rfl) ?_
  refine lv_iconst (v := 0) hx hb dX8_read_38 (by decide) ?_
  refine va_put (D := D) (ci := 8) (v := .int 0) (ty := .int) (C := RX8) (T := TX8) (N := 48) hx hb hts layX8 tyX8 tyX8_ok nmX8 hown hK hP hD hS 0 rfl rfl 27 (by decide) (hts _ (inA q1005)) (fun _ h9 => h9) rfl (by decide +kernel) rfl rfl (Nat.le_of_ble_eq_true rfl) dX8_read_39 (fun H locs hP hD hS => ?_)
  have hP : va_P D vwCl (wM0 ad o_X (o_L.1, o_L.2.1, o_L.2.2.1, o_L.2.2.2.1, o_L.2.2.2.2.1, 0, (-1)) (0, upd o_N.2.1 (0 : Int32).toNatClampNeg 0, o_N.2.2) (0, o_T.2) (0, o_U.2) (0, o_O.2) o_E (0, o_Q.2) o_V o_I ++ wMC cI ad o_C ++ wMX cI ad o_X ++ wMN cI ad (0, upd o_N.2.1 (0 : Int32).toNatClampNeg 0, o_N.2.2) ++ wMT cI ad (0, o_T.2) ++ wMU cI ad (0, o_U.2) ++ wME cI ad o_E ++ wMQ cI ad (0, o_Q.2)) H := hP
  have hD : va_D A (wM0 ad o_X (o_L.1, o_L.2.1, o_L.2.2.1, o_L.2.2.2.1, o_L.2.2.2.2.1, 0, (-1)) (0, upd o_N.2.1 (0 : Int32).toNatClampNeg 0, o_N.2.2) (0, o_T.2) (0, o_U.2) (0, o_O.2) o_E (0, o_Q.2) o_V o_I ++ wMC cI ad o_C ++ wMX cI ad o_X ++ wMN cI ad (0, upd o_N.2.1 (0 : Int32).toNatClampNeg 0, o_N.2.2) ++ wMT cI ad (0, o_T.2) ++ wMU cI ad (0, o_U.2) ++ wME cI ad o_E ++ wMQ cI ad (0, o_Q.2)) := hD
  refine lv_aload_n hx hb dX8_read_42 rfl (lv_at hl 0 rfl) ?_
  refine lv_iconst (v := 0) hx hb dX8_read_43 (by decide) ?_
  refine va_put (D := D) (ci := 8) (v := .int 0) (ty := .int) (C := RX8) (T := TX8) (N := 48) hx hb hts layX8 tyX8 tyX8_ok nmX8 hown hK hP hD hS 0 rfl rfl 28 (by decide) (hts _ (inA q1006)) (fun _ h9 => h9) rfl (by decide +kernel) rfl rfl (Nat.le_of_ble_eq_true rfl) dX8_read_44 (fun H locs hP hD hS => ?_)
  have hP : va_P D vwCl (wM0 ad o_X (o_L.1, o_L.2.1, o_L.2.2.1, o_L.2.2.2.1, o_L.2.2.2.2.1, 0, (-1)) (0, upd o_N.2.1 (0 : Int32).toNatClampNeg 0, o_N.2.2) (0, o_T.2) (0, o_U.2) (0, 0, o_O.2.2) o_E (0, o_Q.2) o_V o_I ++ wMC cI ad o_C ++ wMX cI ad o_X ++ wMN cI ad (0, upd o_N.2.1 (0 : Int32).toNatClampNeg 0, o_N.2.2) ++ wMT cI ad (0, o_T.2) ++ wMU cI ad (0, o_U.2) ++ wME cI ad o_E ++ wMQ cI ad (0, o_Q.2)) H := hP
  have hD : va_D A (wM0 ad o_X (o_L.1, o_L.2.1, o_L.2.2.1, o_L.2.2.2.1, o_L.2.2.2.2.1, 0, (-1)) (0, upd o_N.2.1 (0 : Int32).toNatClampNeg 0, o_N.2.2) (0, o_T.2) (0, o_U.2) (0, 0, o_O.2.2) o_E (0, o_Q.2) o_V o_I ++ wMC cI ad o_C ++ wMX cI ad o_X ++ wMN cI ad (0, upd o_N.2.1 (0 : Int32).toNatClampNeg 0, o_N.2.2) ++ wMT cI ad (0, o_T.2) ++ wMU cI ad (0, o_U.2) ++ wME cI ad o_E ++ wMQ cI ad (0, o_Q.2)) := hD
  refine lv_aload_n hx hb dX8_read_47 rfl (lv_at hl 0 rfl) ?_
  refine lv_iconst (v := 0) hx hb dX8_read_48 (by decide) ?_
  refine va_put (D := D) (ci := 8) (v := .int 0) (ty := .int) (C := RX8) (T := TX8) (N := 48) hx hb hts layX8 tyX8 tyX8_ok nmX8 hown hK hP hD hS 0 rfl rfl 29 (by decide) (hts _ (inA q1007)) (fun _ h9 => h9) rfl (by decide +kernel) rfl rfl (Nat.le_of_ble_eq_true rfl) dX8_read_49 (fun H locs hP hD hS => ?_)
  have hP : va_P D vwCl (wM0 ad o_X (o_L.1, o_L.2.1, o_L.2.2.1, o_L.2.2.2.1, o_L.2.2.2.2.1, 0, (-1)) (0, upd o_N.2.1 (0 : Int32).toNatClampNeg 0, o_N.2.2) (0, o_T.2) (0, o_U.2) (0, 0, 0, o_O.2.2.2) o_E (0, o_Q.2) o_V o_I ++ wMC cI ad o_C ++ wMX cI ad o_X ++ wMN cI ad (0, upd o_N.2.1 (0 : Int32).toNatClampNeg 0, o_N.2.2) ++ wMT cI ad (0, o_T.2) ++ wMU cI ad (0, o_U.2) ++ wME cI ad o_E ++ wMQ cI ad (0, o_Q.2)) H := hP
  have hD : va_D A (wM0 ad o_X (o_L.1, o_L.2.1, o_L.2.2.1, o_L.2.2.2.1, o_L.2.2.2.2.1, 0, (-1)) (0, upd o_N.2.1 (0 : Int32).toNatClampNeg 0, o_N.2.2) (0, o_T.2) (0, o_U.2) (0, 0, 0, o_O.2.2.2) o_E (0, o_Q.2) o_V o_I ++ wMC cI ad o_C ++ wMX cI ad o_X ++ wMN cI ad (0, upd o_N.2.1 (0 : Int32).toNatClampNeg 0, o_N.2.2) ++ wMT cI ad (0, o_T.2) ++ wMU cI ad (0, o_U.2) ++ wME cI ad o_E ++ wMQ cI ad (0, o_Q.2)) := hD
  refine lv_aload_n hx hb dX8_read_52 rfl (lv_at hl 0 rfl) ?_
  refine lv_iconst (v := 0) hx hb dX8_read_53 (by decide) ?_
  refine va_put (D := D) (ci := 8) (v := .int 0) (ty := .int) (C := RX8) (T := TX8) (N := 48) hx hb hts layX8 tyX8 tyX8_ok nmX8 hown hK hP hD hS 0 rfl rfl 33 (by decide) (hts _ (inA q1011)) (fun _ h9 => h9) rfl (by decide +kernel) rfl rfl (Nat.le_of_ble_eq_true rfl) dX8_read_54 (fun H locs hP hD hS => ?_)
  have hP : va_P D vwCl (wM0 ad o_X (o_L.1, o_L.2.1, o_L.2.2.1, o_L.2.2.2.1, o_L.2.2.2.2.1, 0, (-1)) (0, upd o_N.2.1 (0 : Int32).toNatClampNeg 0, o_N.2.2) (0, o_T.2) (0, o_U.2) (0, 0, 0, o_O.2.2.2) (0, o_E.2) (0, o_Q.2) o_V o_I ++ wMC cI ad o_C ++ wMX cI ad o_X ++ wMN cI ad (0, upd o_N.2.1 (0 : Int32).toNatClampNeg 0, o_N.2.2) ++ wMT cI ad (0, o_T.2) ++ wMU cI ad (0, o_U.2) ++ wME cI ad (0, o_E.2) ++ wMQ cI ad (0, o_Q.2)) H := hP
  have hD : va_D A (wM0 ad o_X (o_L.1, o_L.2.1, o_L.2.2.1, o_L.2.2.2.1, o_L.2.2.2.2.1, 0, (-1)) (0, upd o_N.2.1 (0 : Int32).toNatClampNeg 0, o_N.2.2) (0, o_T.2) (0, o_U.2) (0, 0, 0, o_O.2.2.2) (0, o_E.2) (0, o_Q.2) o_V o_I ++ wMC cI ad o_C ++ wMX cI ad o_X ++ wMN cI ad (0, upd o_N.2.1 (0 : Int32).toNatClampNeg 0, o_N.2.2) ++ wMT cI ad (0, o_T.2) ++ wMU cI ad (0, o_U.2) ++ wME cI ad (0, o_E.2) ++ wMQ cI ad (0, o_Q.2)) := hD
  refine lv_aload_n hx hb dX8_read_57 rfl (lv_at hl 0 rfl) ?_
  refine lv_iconst (v := 0) hx hb dX8_read_58 (by decide) ?_
  refine va_put (D := D) (ci := 8) (v := .int 0) (ty := .int) (C := RX8) (T := TX8) (N := 48) hx hb hts layX8 tyX8 tyX8_ok nmX8 hown hK hP hD hS 0 rfl rfl 35 (by decide) (hts _ (inA q1013)) (fun _ h9 => h9) rfl (by decide +kernel) rfl rfl (Nat.le_of_ble_eq_true rfl) dX8_read_59 (fun H locs hP hD hS => ?_)
  have hP : va_P D vwCl (wM0 ad o_X (o_L.1, o_L.2.1, o_L.2.2.1, o_L.2.2.2.1, o_L.2.2.2.2.1, 0, (-1)) (0, upd o_N.2.1 (0 : Int32).toNatClampNeg 0, o_N.2.2) (0, o_T.2) (0, o_U.2) (0, 0, 0, o_O.2.2.2) (0, 0, o_E.2.2) (0, o_Q.2) o_V o_I ++ wMC cI ad o_C ++ wMX cI ad o_X ++ wMN cI ad (0, upd o_N.2.1 (0 : Int32).toNatClampNeg 0, o_N.2.2) ++ wMT cI ad (0, o_T.2) ++ wMU cI ad (0, o_U.2) ++ wME cI ad (0, 0, o_E.2.2) ++ wMQ cI ad (0, o_Q.2)) H := hP
  have hD : va_D A (wM0 ad o_X (o_L.1, o_L.2.1, o_L.2.2.1, o_L.2.2.2.1, o_L.2.2.2.2.1, 0, (-1)) (0, upd o_N.2.1 (0 : Int32).toNatClampNeg 0, o_N.2.2) (0, o_T.2) (0, o_U.2) (0, 0, 0, o_O.2.2.2) (0, 0, o_E.2.2) (0, o_Q.2) o_V o_I ++ wMC cI ad o_C ++ wMX cI ad o_X ++ wMN cI ad (0, upd o_N.2.1 (0 : Int32).toNatClampNeg 0, o_N.2.2) ++ wMT cI ad (0, o_T.2) ++ wMU cI ad (0, o_U.2) ++ wME cI ad (0, 0, o_E.2.2) ++ wMQ cI ad (0, o_Q.2)) := hD
  refine lv_aload_n hx hb dX8_read_62 rfl (lv_at hl 0 rfl) ?_
  refine lv_iconst (v := 0) hx hb dX8_read_63 (by decide) ?_
  refine va_put (D := D) (ci := 8) (v := .int 0) (ty := .int) (C := RX8) (T := TX8) (N := 48) hx hb hts layX8 tyX8 tyX8_ok nmX8 hown hK hP hD hS 0 rfl rfl 38 (by decide) (hts _ (inA q1016)) (fun _ h9 => h9) rfl (by decide +kernel) rfl rfl (Nat.le_of_ble_eq_true rfl) dX8_read_64 (fun H locs hP hD hS => ?_)
  have hP : va_P D vwCl (wM0 ad o_X (o_L.1, o_L.2.1, o_L.2.2.1, o_L.2.2.2.1, o_L.2.2.2.2.1, 0, (-1)) (0, upd o_N.2.1 (0 : Int32).toNatClampNeg 0, o_N.2.2) (0, o_T.2) (0, o_U.2) (0, 0, 0, o_O.2.2.2) (0, 0, 0, o_E.2.2.2) (0, o_Q.2) o_V o_I ++ wMC cI ad o_C ++ wMX cI ad o_X ++ wMN cI ad (0, upd o_N.2.1 (0 : Int32).toNatClampNeg 0, o_N.2.2) ++ wMT cI ad (0, o_T.2) ++ wMU cI ad (0, o_U.2) ++ wME cI ad (0, 0, 0, o_E.2.2.2) ++ wMQ cI ad (0, o_Q.2)) H := hP
  have hD : va_D A (wM0 ad o_X (o_L.1, o_L.2.1, o_L.2.2.1, o_L.2.2.2.1, o_L.2.2.2.2.1, 0, (-1)) (0, upd o_N.2.1 (0 : Int32).toNatClampNeg 0, o_N.2.2) (0, o_T.2) (0, o_U.2) (0, 0, 0, o_O.2.2.2) (0, 0, 0, o_E.2.2.2) (0, o_Q.2) o_V o_I ++ wMC cI ad o_C ++ wMX cI ad o_X ++ wMN cI ad (0, upd o_N.2.1 (0 : Int32).toNatClampNeg 0, o_N.2.2) ++ wMT cI ad (0, o_T.2) ++ wMU cI ad (0, o_U.2) ++ wME cI ad (0, 0, 0, o_E.2.2.2) ++ wMQ cI ad (0, o_Q.2)) := hD
  refine lv_aload_n hx hb dX8_read_67 rfl (lv_at hl 0 rfl) ?_
  refine lv_iconst (v := 0) hx hb dX8_read_68 (by decide) ?_
  refine va_put (D := D) (ci := 8) (v := .int 0) (ty := .int) (C := RX8) (T := TX8) (N := 48) hx hb hts layX8 tyX8 tyX8_ok nmX8 hown hK hP hD hS 0 rfl rfl 6 (by decide) (hts _ (inA q984)) (fun _ h9 => h9) rfl (by decide +kernel) rfl rfl (Nat.le_of_ble_eq_true rfl) dX8_read_69 (fun H locs hP hD hS => ?_)
  have hP : va_P D vwCl (wM0 ad o_X (0, o_L.2.1, o_L.2.2.1, o_L.2.2.2.1, o_L.2.2.2.2.1, 0, (-1)) (0, upd o_N.2.1 (0 : Int32).toNatClampNeg 0, o_N.2.2) (0, o_T.2) (0, o_U.2) (0, 0, 0, o_O.2.2.2) (0, 0, 0, o_E.2.2.2) (0, o_Q.2) o_V o_I ++ wMC cI ad o_C ++ wMX cI ad o_X ++ wMN cI ad (0, upd o_N.2.1 (0 : Int32).toNatClampNeg 0, o_N.2.2) ++ wMT cI ad (0, o_T.2) ++ wMU cI ad (0, o_U.2) ++ wME cI ad (0, 0, 0, o_E.2.2.2) ++ wMQ cI ad (0, o_Q.2)) H := hP
  have hD : va_D A (wM0 ad o_X (0, o_L.2.1, o_L.2.2.1, o_L.2.2.2.1, o_L.2.2.2.2.1, 0, (-1)) (0, upd o_N.2.1 (0 : Int32).toNatClampNeg 0, o_N.2.2) (0, o_T.2) (0, o_U.2) (0, 0, 0, o_O.2.2.2) (0, 0, 0, o_E.2.2.2) (0, o_Q.2) o_V o_I ++ wMC cI ad o_C ++ wMX cI ad o_X ++ wMN cI ad (0, upd o_N.2.1 (0 : Int32).toNatClampNeg 0, o_N.2.2) ++ wMT cI ad (0, o_T.2) ++ wMU cI ad (0, o_U.2) ++ wME cI ad (0, 0, 0, o_E.2.2.2) ++ wMQ cI ad (0, o_Q.2)) := hD
  refine lv_aload_n hx hb dX8_read_72 rfl (lv_at hl 0 rfl) ?_
  refine lv_iconst (v := 0) hx hb dX8_read_73 (by decide) ?_
  refine va_put (D := D) (ci := 8) (v := .int 0) (ty := .int) (C := RX8) (T := TX8) (N := 48) hx hb hts layX8 tyX8 tyX8_ok nmX8 hown hK hP hD hS 0 rfl rfl 9 (by decide) (hts _ (inA q987)) (fun _ h9 => h9) rfl (by decide +kernel) rfl rfl (Nat.le_of_ble_eq_true rfl) dX8_read_74 (fun H locs hP hD hS => ?_)
  have hP : va_P D vwCl (wM0 ad o_X (0, o_L.2.1, o_L.2.2.1, 0, o_L.2.2.2.2.1, 0, (-1)) (0, upd o_N.2.1 (0 : Int32).toNatClampNeg 0, o_N.2.2) (0, o_T.2) (0, o_U.2) (0, 0, 0, o_O.2.2.2) (0, 0, 0, o_E.2.2.2) (0, o_Q.2) o_V o_I ++ wMC cI ad o_C ++ wMX cI ad o_X ++ wMN cI ad (0, upd o_N.2.1 (0 : Int32).toNatClampNeg 0, o_N.2.2) ++ wMT cI ad (0, o_T.2) ++ wMU cI ad (0, o_U.2) ++ wME cI ad (0, 0, 0, o_E.2.2.2) ++ wMQ cI ad (0, o_Q.2)) H := hP
  have hD : va_D A (wM0 ad o_X (0, o_L.2.1, o_L.2.2.1, 0, o_L.2.2.2.2.1, 0, (-1)) (0, upd o_N.2.1 (0 : Int32).toNatClampNeg 0, o_N.2.2) (0, o_T.2) (0, o_U.2) (0, 0, 0, o_O.2.2.2) (0, 0, 0, o_E.2.2.2) (0, o_Q.2) o_V o_I ++ wMC cI ad o_C ++ wMX cI ad o_X ++ wMN cI ad (0, upd o_N.2.1 (0 : Int32).toNatClampNeg 0, o_N.2.2) ++ wMT cI ad (0, o_T.2) ++ wMU cI ad (0, o_U.2) ++ wME cI ad (0, 0, 0, o_E.2.2.2) ++ wMQ cI ad (0, o_Q.2)) := hD
  refine lv_aload_n hx hb dX8_read_77 rfl (lv_at hl 0 rfl) ?_
  refine lv_aload_n hx hb dX8_read_78 rfl (lv_at hl 0 rfl) ?_
  refine lv_iconst (v := 0) hx hb dX8_read_79 (by decide) ?_
  refine lv_iconst (v := 0) hx hb dX8_read_80 (by decide) ?_
  refine lv_iconst (v := 0) hx hb dX8_read_81 (by decide) ?_
  obtain ⟨r2, hcr2, hM⟩ := ob_use hM
  refine cl_V (As := [.int 0, .int 0, .int 0]) (rest := [.ref (ad 100)]) (wM0 ad o_X (0, o_L.2.1, o_L.2.2.1, 0, o_L.2.2.2.2.1, 0, (-1)) (0, upd o_N.2.1 (0 : Int32).toNatClampNeg 0, o_N.2.2) r2.2 (0, o_U.2) (0, 0, 0, o_O.2.2.2) (0, 0, 0, o_E.2.2.2) (0, o_Q.2) o_V o_I ++ wMC cI ad o_C ++ wMX cI ad o_X ++ wMN cI ad (0, upd o_N.2.1 (0 : Int32).toNatClampNeg 0, o_N.2.2) ++ wMT cI ad r2.2 ++ wMU cI ad (0, o_U.2) ++ wME cI ad (0, 0, 0, o_E.2.2.2) ++ wMQ cI ad (0, o_Q.2)) (.int r2.1 :: [.ref (ad 100)]) ⟨hx, hb, hml, hown, hts⟩ (c_Model_make l D cI sd ad o_C o_X (0, o_L.2.1, o_L.2.2.1, 0, o_L.2.2.2.2.1, 0, (-1)) (0, upd o_N.2.1 (0 : Int32).toNatClampNeg 0, o_N.2.2) (0, o_U.2) (0, 0, 0, o_O.2.2.2) (0, 0, 0, o_E.2.2.2) (0, o_Q.2) o_V o_I (0, o_T.2) 0 0 0 r2 hcr2) (cwV2 hts q1143 mvX8_make rfl rfl ⟨(Nat.le_of_ble_eq_true rfl), (Nat.le_of_ble_eq_true rfl)⟩) hK hE hA hP hD hS 0 (T := TX8) (N := 48) (ci := 8) rfl rfl [0, 8, 9, 10, 11, 12, 13, 14] rfl (by decide) rfl rfl rfl rfl rfl rfl hl.1 (Nat.le_of_ble_eq_true rfl) dX8_read_82 ⟨Nat.zero_le _, Nat.zero_le _⟩ (fun H locs hP hD hS => ?_)
  refine va_put (D := D) (ci := 8) (v := .int r2.1) (ty := .int) (C := RX8) (T := TX8) (N := 48) hx hb hts layX8 tyX8 tyX8_ok nmX8 hown hK hP hD hS 0 rfl rfl 24 (by decide) (hts _ (inA q1002)) (fun _ h9 => h9) rfl (by decide +kernel) rfl rfl (Nat.le_of_ble_eq_true rfl) dX8_read_85 (fun H locs hP hD hS => ?_)
  have hP : va_P D vwCl (wM0 ad o_X (0, o_L.2.1, o_L.2.2.1, 0, o_L.2.2.2.2.1, 0, (-1)) (0, upd o_N.2.1 (0 : Int32).toNatClampNeg 0, o_N.2.2) (r2.2.1, r2.1, r2.2.2.2) (0, o_U.2) (0, 0, 0, o_O.2.2.2) (0, 0, 0, o_E.2.2.2) (0, o_Q.2) o_V o_I ++ wMC cI ad o_C ++ wMX cI ad o_X ++ wMN cI ad (0, upd o_N.2.1 (0 : Int32).toNatClampNeg 0, o_N.2.2) ++ wMT cI ad (r2.2.1, r2.1, r2.2.2.2) ++ wMU cI ad (0, o_U.2) ++ wME cI ad (0, 0, 0, o_E.2.2.2) ++ wMQ cI ad (0, o_Q.2)) H := hP
  have hD : va_D A (wM0 ad o_X (0, o_L.2.1, o_L.2.2.1, 0, o_L.2.2.2.2.1, 0, (-1)) (0, upd o_N.2.1 (0 : Int32).toNatClampNeg 0, o_N.2.2) (r2.2.1, r2.1, r2.2.2.2) (0, o_U.2) (0, 0, 0, o_O.2.2.2) (0, 0, 0, o_E.2.2.2) (0, o_Q.2) o_V o_I ++ wMC cI ad o_C ++ wMX cI ad o_X ++ wMN cI ad (0, upd o_N.2.1 (0 : Int32).toNatClampNeg 0, o_N.2.2) ++ wMT cI ad (r2.2.1, r2.1, r2.2.2.2) ++ wMU cI ad (0, o_U.2) ++ wME cI ad (0, 0, 0, o_E.2.2.2) ++ wMQ cI ad (0, o_Q.2)) := hD
  refine lv_aload_n hx hb dX8_read_88 rfl (lv_at hl 0 rfl) ?_
  refine lv_bipush (v := 100) hx hb dX8_read_89 (by decide) ?_
  obtain ⟨r3, hcr3, hM⟩ := ob_use hM
  refine cl_V (As := [.int 100]) (rest := []) (wM0 ad o_X (0, o_L.2.1, o_L.2.2.1, 0, o_L.2.2.2.2.1, 0, (-1)) (0, upd o_N.2.1 (0 : Int32).toNatClampNeg 0, o_N.2.2) (r2.2.1, r2.1, r2.2.2.2) r3 (0, 0, 0, o_O.2.2.2) (0, 0, 0, o_E.2.2.2) (0, o_Q.2) o_V o_I ++ wMC cI ad o_C ++ wMX cI ad o_X ++ wMN cI ad (0, upd o_N.2.1 (0 : Int32).toNatClampNeg 0, o_N.2.2) ++ wMT cI ad (r2.2.1, r2.1, r2.2.2.2) ++ wMU cI ad r3 ++ wME cI ad (0, 0, 0, o_E.2.2.2) ++ wMQ cI ad (0, o_Q.2)) [] ⟨hx, hb, hml, hown, hts⟩ (c_Model_push l D cI sd ad o_C o_X (0, o_L.2.1, o_L.2.2.1, 0, o_L.2.2.2.2.1, 0, (-1)) (0, upd o_N.2.1 (0 : Int32).toNatClampNeg 0, o_N.2.2) (r2.2.1, r2.1, r2.2.2.2) (0, 0, 0, o_O.2.2.2) (0, 0, 0, o_E.2.2.2) (0, o_Q.2) o_V o_I (0, o_U.2) 100 r3 hcr3) (cwV2 hts q1147 mvX8_push rfl rfl ⟨(Nat.le_of_ble_eq_true rfl), (Nat.le_of_ble_eq_true rfl)⟩) hK hE hA hP hD hS 0 (T := TX8) (N := 48) (ci := 8) rfl rfl [0, 15] rfl (by decide) rfl rfl rfl rfl rfl rfl hl.1 (Nat.le_of_ble_eq_true rfl) dX8_read_91 ⟨Nat.zero_le _, Nat.zero_le _⟩ (fun H locs hP hD hS => ?_)
  refine lv_aload_n hx hb dX8_read_94 rfl (lv_at hl 0 rfl) ?_
  obtain ⟨r4, hcr4, hM⟩ := ob_use hM
  refine cl_V (As := []) (rest := []) (wM0 ad o_X r4.1 r4.2 (r2.2.1, r2.1, r2.2.2.2) r3 (0, 0, 0, o_O.2.2.2) (0, 0, 0, o_E.2.2.2) (0, o_Q.2) o_V o_I ++ wMC cI ad o_C ++ wMX cI ad o_X ++ wMN cI ad r4.2 ++ wMT cI ad (r2.2.1, r2.1, r2.2.2.2) ++ wMU cI ad r3 ++ wME cI ad (0, 0, 0, o_E.2.2.2) ++ wMQ cI ad (0, o_Q.2)) [] ⟨hx, hb, hml, hown, hts⟩ (c_Model_step l D cI sd ad (r2.2.1, r2.1, r2.2.2.2) r3 (0, 0, 0, o_O.2.2.2) (0, 0, 0, o_E.2.2.2) (0, o_Q.2) o_V o_I o_C o_X (0, o_L.2.1, o_L.2.2.1, 0, o_L.2.2.2.2.1, 0, (-1)) (0, upd o_N.2.1 (0 : Int32).toNatClampNeg 0, o_N.2.2) r4 hcr4) (cwV2 hts q1151 mvX8_step rfl rfl ⟨(Nat.le_of_ble_eq_true rfl), (Nat.le_of_ble_eq_true rfl)⟩) hK hE hA hP hD hS 0 (T := TX8) (N := 48) (ci := 8) rfl rfl [0, 1, 2, 3, 4, 5, 6, 7] rfl (by decide) rfl rfl rfl rfl rfl rfl hl.1 (Nat.le_of_ble_eq_true rfl) dX8_read_95 ⟨Nat.zero_le _, Nat.zero_le _⟩ (fun H locs hP hD hS => ?_)
  have lp_L98 : ∀ (o_C_L98 : S_MC) (o_X_L98 : S_MX) (o_Q_L98 : S_MQ) (n : Nat) (o_L_L98 : S_ML) (o_N_L98 : S_MN) (o_T_L98 : S_MT) (o_U_L98 : S_MU) (o_O_L98 : S_MO) (o_E_L98 : S_ME) (out_L98 : S_ML × S_MN × S_MT × S_MU × S_MO × S_ME) (H : Heap) (locs : List Loc) (ls : Array Slot), f_Model_read_L98 o_C_L98 o_X_L98 n o_L_L98 o_N_L98 o_T_L98 o_U_L98 o_O_L98 o_E_L98 = some out_L98 → va_P D vwCl (wM0 ad o_X_L98 o_L_L98 o_N_L98 o_T_L98 o_U_L98 o_O_L98 o_E_L98 o_Q_L98 o_V o_I ++ wMC cI ad o_C_L98 ++ wMX cI ad o_X_L98 ++ wMN cI ad o_N_L98 ++ wMT cI ad o_T_L98 ++ wMU cI ad o_U_L98 ++ wME cI ad o_E_L98 ++ wMQ cI ad o_Q_L98) H → va_D A (wM0 ad o_X_L98 o_L_L98 o_N_L98 o_T_L98 o_U_L98 o_O_L98 o_E_L98 o_Q_L98 o_V o_I ++ wMC cI ad o_C_L98 ++ wMX cI ad o_X_L98 ++ wMN cI ad o_N_L98 ++ wMT cI ad o_T_L98 ++ wMU cI ad o_U_L98 ++ wME cI ad o_E_L98 ++ wMQ cI ad o_Q_L98) → va_S A s.heap H locs → lv_has ls 1 [(0, .ref (ad 100))] → (∀ (H : Heap) (locs : List Loc) (ls : Array Slot), va_P D vwCl (wM0 ad o_X_L98 out_L98.1 out_L98.2.1 out_L98.2.2.1 out_L98.2.2.2.1 out_L98.2.2.2.2.1 out_L98.2.2.2.2.2 o_Q_L98 o_V o_I ++ wMC cI ad o_C_L98 ++ wMX cI ad o_X_L98 ++ wMN cI ad out_L98.2.1 ++ wMT cI ad out_L98.2.2.1 ++ wMU cI ad out_L98.2.2.2.1 ++ wME cI ad out_L98.2.2.2.2.2 ++ wMQ cI ad o_Q_L98) H → va_D A (wM0 ad o_X_L98 out_L98.1 out_L98.2.1 out_L98.2.2.1 out_L98.2.2.2.1 out_L98.2.2.2.2.1 out_L98.2.2.2.2.2 o_Q_L98 o_V o_I ++ wMC cI ad o_C_L98 ++ wMX cI ad o_X_L98 ++ wMN cI ad out_L98.2.1 ++ wMT cI ad out_L98.2.2.1 ++ wMU cI ad out_L98.2.2.2.1 ++ wME cI ad out_L98.2.2.2.2.2 ++ wMQ cI ad o_Q_L98) → va_S A s.heap H locs → lv_has ls 1 [(0, .ref (ad 100))] → W p l e { frames := 11, cells := 0, slots := 0, locals := 237 } s m [.ref (ad 100)].toArray below meth c H locs 0 0 (MQ below (CQ D A (wM0 ad o_X res.2.1 res.2.2.1 res.2.2.2.1 res.2.2.2.2.1 res.2.2.2.2.2.1 res.2.2.2.2.2.2.1 res.2.2.2.2.2.2.2 o_V o_I ++ wMC cI ad o_C ++ wMX cI ad o_X ++ wMN cI ad res.2.2.1 ++ wMT cI ad res.2.2.2.1 ++ wMU cI ad res.2.2.2.2.1 ++ wME cI ad res.2.2.2.2.2.2.1 ++ wMQ cI ad res.2.2.2.2.2.2.2) (some (.int res.1))) [.ref (ad 100)].toArray s 0 0 A) (F0 m 138 ls [])) → W p l e { frames := 11, cells := 0, slots := 0, locals := 237 } s m [.ref (ad 100)].toArray below meth c H locs 0 0 (MQ below (CQ D A (wM0 ad o_X res.2.1 res.2.2.1 res.2.2.2.1 res.2.2.2.2.1 res.2.2.2.2.2.1 res.2.2.2.2.2.2.1 res.2.2.2.2.2.2.2 o_V o_I ++ wMC cI ad o_C ++ wMX cI ad o_X ++ wMN cI ad res.2.2.1 ++ wMT cI ad res.2.2.2.1 ++ wMU cI ad res.2.2.2.2.1 ++ wME cI ad res.2.2.2.2.2.2.1 ++ wMQ cI ad res.2.2.2.2.2.2.2) (some (.int res.1))) [.ref (ad 100)].toArray s 0 0 A) (F0 m 98 ls []) := by
    intro o_C_L98 o_X_L98 o_Q_L98 n
    induction n with
    | zero => intro o_L_L98 o_N_L98 o_T_L98 o_U_L98 o_O_L98 o_E_L98 out_L98 H locs ls hM; exact absurd (show none = some _ from hM) (by simp)
    | succ n ih_L98 =>
      intro o_L_L98 o_N_L98 o_T_L98 o_U_L98 o_O_L98 o_E_L98 out_L98 H locs ls hM hP hD hS hl kx_L98
      rw [f_Model_read_L98] at hM
      refine lv_aload_n hx hb dX8_read_98 rfl (lv_at hl 0 rfl) ?_
      refine va_get (D := D) (ci := 8) (v := .int o_L_L98.2.2.2.2.2.1) (C := RX8) (T := TX8) (N := 48) hx hb hts layX8 hown hK hP 0 rfl rfl 11 (by decide) (hts _ (inA q989)) (fun _ h9 => h9) rfl dX8_read_99 ?_
      refine lv_if_ne (tgt := 138) hx hb dX8_read_102 (by decide) (fun c2081 => ?_) (fun c2081 => ?_)
      · replace hM := if_f c2081 hM
        cases hM
        exact kx_L98 _ _ _ hP hD hS (lv_sub hl [0] rfl)
      · replace hM := if_t c2081 hM
        refine lv_aload_n hx hb dX8_read_105 rfl (lv_at hl 0 rfl) ?_
        refine va_get (D := D) (ci := 8) (v := .int o_U_L98.1) (C := RX8) (T := TX8) (N := 48) hx hb hts layX8 hown hK hP 0 rfl rfl 25 (by decide) (hts _ (inA q1003)) (fun _ h9 => h9) rfl dX8_read_106 ?_
        refine lv_if_le (tgt := 138) hx hb dX8_read_109 (by decide) (fun c2082 => ?_) (fun c2082 => ?_)
        · replace hM := if_t c2082 hM
          cases hM
          exact kx_L98 _ _ _ hP hD hS (lv_sub hl [0] rfl)
        · replace hM := if_f c2082 hM
          refine lv_aload_n hx hb dX8_read_112 rfl (lv_at hl 0 rfl) ?_
          refine lv_dup hx hb dX8_read_113 rfl ?_
          refine va_get (D := D) (ci := 8) (v := .int o_U_L98.1) (C := RX8) (T := TX8) (N := 48) hx hb hts layX8 hown hK hP 0 rfl rfl 25 (by decide) (hts _ (inA q1003)) (fun _ h9 => h9) rfl dX8_read_114 ?_
          refine lv_iconst (v := 1) hx hb dX8_read_117 (by decide) ?_
          refine lv_isub hx hb dX8_read_118 ?_
          refine va_put (D := D) (ci := 8) (v := .int (o_U_L98.1 - 1)) (ty := .int) (C := RX8) (T := TX8) (N := 48) hx hb hts layX8 tyX8 tyX8_ok nmX8 hown hK hP hD hS 0 rfl rfl 25 (by decide) (hts _ (inA q1003)) (fun _ h9 => h9) rfl (by decide +kernel) rfl rfl (Nat.le_of_ble_eq_true rfl) dX8_read_119 (fun H locs hP hD hS => ?_)
          have hP : va_P D vwCl (wM0 ad o_X_L98 o_L_L98 o_N_L98 o_T_L98 (o_U_L98.1 - 1, o_U_L98.2) o_O_L98 o_E_L98 o_Q_L98 o_V o_I ++ wMC cI ad o_C_L98 ++ wMX cI ad o_X_L98 ++ wMN cI ad o_N_L98 ++ wMT cI ad o_T_L98 ++ wMU cI ad (o_U_L98.1 - 1, o_U_L98.2) ++ wME cI ad o_E_L98 ++ wMQ cI ad o_Q_L98) H := hP
          have hD : va_D A (wM0 ad o_X_L98 o_L_L98 o_N_L98 o_T_L98 (o_U_L98.1 - 1, o_U_L98.2) o_O_L98 o_E_L98 o_Q_L98 o_V o_I ++ wMC cI ad o_C_L98 ++ wMX cI ad o_X_L98 ++ wMN cI ad o_N_L98 ++ wMT cI ad o_T_L98 ++ wMU cI ad (o_U_L98.1 - 1, o_U_L98.2) ++ wME cI ad o_E_L98 ++ wMQ cI ad o_Q_L98) := hD
          refine lv_aload_n hx hb dX8_read_122 rfl (lv_at hl 0 rfl) ?_
          refine lv_aload_n hx hb dX8_read_123 rfl (lv_at hl 0 rfl) ?_
          refine va_get (D := D) (ci := 8) (v := .ref (ad 115)) (C := RX8) (T := TX8) (N := 48) hx hb hts layX8 hown hK hP 0 rfl rfl 26 (by decide) (hts _ (inA q1004)) (fun _ h9 => h9) rfl dX8_read_124 ?_
          refine lv_aload_n hx hb dX8_read_127 rfl (lv_at hl 0 rfl) ?_
          refine va_get (D := D) (ci := 8) (v := .int (o_U_L98.1 - 1)) (C := RX8) (T := TX8) (N := 48) hx hb hts layX8 hown hK hP 0 rfl rfl 25 (by decide) (hts _ (inA q1003)) (fun _ h9 => h9) rfl dX8_read_128 ?_
          obtain ⟨b2083, hM⟩ := gd_use hM
          refine va_iald hx hb hK hP 15 0 rfl rfl b2083 dX8_read_131 ?_
          obtain ⟨r2084, hcr2084, hM⟩ := ob_use hM
          refine cl_V (As := [.int (o_U_L98.2 (o_U_L98.1 - 1).toNatClampNeg)]) (rest := []) (wM0 ad o_X_L98 r2084.1 r2084.2.1 r2084.2.2.1 r2084.2.2.2.1 r2084.2.2.2.2.1 r2084.2.2.2.2.2 o_Q_L98 o_V o_I ++ wMC cI ad o_C_L98 ++ wMX cI ad o_X_L98 ++ wMN cI ad r2084.2.1 ++ wMT cI ad r2084.2.2.1 ++ wMU cI ad r2084.2.2.2.1 ++ wME cI ad r2084.2.2.2.2.2 ++ wMQ cI ad o_Q_L98) [] ⟨hx, hb, hml, hown, hts⟩ (c_Model_act l D cI sd ad o_Q_L98 o_V o_I o_C_L98 o_X_L98 o_L_L98 o_N_L98 o_T_L98 (o_U_L98.1 - 1, o_U_L98.2) o_O_L98 o_E_L98 (o_U_L98.2 (o_U_L98.1 - 1).toNatClampNeg) r2084 hcr2084) (cwV2 hts q1225 mvX8_act rfl rfl ⟨(Nat.le_of_ble_eq_true rfl), (Nat.le_of_ble_eq_true rfl)⟩) hK hE hA hP hD hS 0 (T := TX8) (N := 48) (ci := 8) rfl rfl [0, 1, 2, 3, 4, 5, 6, 7, 8, 9, 10, 11, 12, 13, 14, 15, 16, 17, 18, 19] rfl (by decide) rfl rfl rfl rfl rfl rfl hl.1 (Nat.le_of_ble_eq_true rfl) dX8_read_132 ⟨Nat.zero_le _, Nat.zero_le _⟩ (fun H locs hP hD hS => ?_)
          refine lv_goto (tgt := 98) hx hb dX8_read_135 (by decide) ?_
          exact ih_L98 r2084.1 r2084.2.1 r2084.2.2.1 r2084.2.2.2.1 r2084.2.2.2.2.1 r2084.2.2.2.2.2 out_L98 _ _ _ hM hP hD hS (lv_sub hl [0] rfl) kx_L98
  obtain ⟨r5, hcr5, hM⟩ := ob_use hM
  refine lp_L98 o_C o_X (0, o_Q.2) FU r4.1 r4.2 (r2.2.1, r2.1, r2.2.2.2) r3 (0, 0, 0, o_O.2.2.2) (0, 0, 0, o_E.2.2.2) r5 _ _ _ hcr5 hP hD hS (lv_sub hl [0] rfl) (fun H locs ls hP hD hS hl => ?_)
  refine lv_aload_n hx hb dX8_read_138 rfl (lv_at hl 0 rfl) ?_
  refine va_get (D := D) (ci := 8) (v := .int r5.1.2.2.2.2.2.1) (C := RX8) (T := TX8) (N := 48) hx hb hts layX8 hown hK hP 0 rfl rfl 11 (by decide) (hts _ (inA q989)) (fun _ h9 => h9) rfl dX8_read_139 ?_
  refine lv_if_ne (tgt := 152) hx hb dX8_read_142 (by decide) (fun c6 => ?_) (fun c6 => ?_)
  · replace hM := if_f c6 hM
    refine lv_aload_n hx hb dX8_read_152 rfl (lv_at hl 0 rfl) ?_
    refine lv_iconst (v := 0) hx hb dX8_read_153 (by decide) ?_
    refine va_put (D := D) (ci := 8) (v := .int 0) (ty := .int) (C := RX8) (T := TX8) (N := 48) hx hb hts layX8 tyX8 tyX8_ok nmX8 hown hK hP hD hS 0 rfl rfl 13 (by decide) (hts _ (inA q991)) (fun _ h9 => h9) rfl (by decide +kernel) rfl rfl (Nat.le_of_ble_eq_true rfl) dX8_read_154 (fun H locs hP hD hS => ?_)
    have hP : va_P D vwCl (wM0 ad o_X r5.1 (0, r5.2.1.2) r5.2.2.1 r5.2.2.2.1 r5.2.2.2.2.1 r5.2.2.2.2.2 (0, o_Q.2) o_V o_I ++ wMC cI ad o_C ++ wMX cI ad o_X ++ wMN cI ad (0, r5.2.1.2) ++ wMT cI ad r5.2.2.1 ++ wMU cI ad r5.2.2.2.1 ++ wME cI ad r5.2.2.2.2.2 ++ wMQ cI ad (0, o_Q.2)) H := hP
    have hD : va_D A (wM0 ad o_X r5.1 (0, r5.2.1.2) r5.2.2.1 r5.2.2.2.1 r5.2.2.2.2.1 r5.2.2.2.2.2 (0, o_Q.2) o_V o_I ++ wMC cI ad o_C ++ wMX cI ad o_X ++ wMN cI ad (0, r5.2.1.2) ++ wMT cI ad r5.2.2.1 ++ wMU cI ad r5.2.2.2.1 ++ wME cI ad r5.2.2.2.2.2 ++ wMQ cI ad (0, o_Q.2)) := hD
    refine lv_aload_n hx hb dX8_read_157 rfl (lv_at hl 0 rfl) ?_
    refine va_get (D := D) (ci := 8) (v := .int r5.1.2.2.2.2.2.1) (C := RX8) (T := TX8) (N := 48) hx hb hts layX8 hown hK hP 0 rfl rfl 11 (by decide) (hts _ (inA q989)) (fun _ h9 => h9) rfl dX8_read_158 ?_
    cases hM
    exact rt_i hx hb hr hlk hP hD hS rfl dX8_read_161
  · replace hM := if_t c6 hM
    refine lv_aload_n hx hb dX8_read_145 rfl (lv_at hl 0 rfl) ?_
    obtain ⟨r7, hcr7, hM⟩ := ob_use hM
    refine cl_V (As := []) (rest := []) (wM0 ad o_X r5.1 r5.2.1 r5.2.2.1 r5.2.2.2.1 r5.2.2.2.2.1 r5.2.2.2.2.2 r7 o_V o_I ++ wMC cI ad o_C ++ wMX cI ad o_X ++ wMN cI ad r5.2.1 ++ wMT cI ad r5.2.2.1 ++ wMU cI ad r5.2.2.2.1 ++ wME cI ad r5.2.2.2.2.2 ++ wMQ cI ad r7) [] ⟨hx, hb, hml, hown, hts⟩ (c_Model_number l D cI sd ad o_C o_X r5.1 r5.2.1 r5.2.2.2.1 r5.2.2.2.2.1 r5.2.2.2.2.2 o_V o_I r5.2.2.1 (0, o_Q.2) r7 hcr7) (cwV2 hts q1484 mvX8_number rfl rfl ⟨(Nat.le_of_ble_eq_true rfl), (Nat.le_of_ble_eq_true rfl)⟩) hK hE hA hP hD hS 0 (T := TX8) (N := 48) (ci := 8) rfl rfl [0, 8, 9, 10, 11, 12, 13, 14, 20, 21] rfl (by decide) rfl rfl rfl rfl rfl rfl hl.1 (Nat.le_of_ble_eq_true rfl) dX8_read_146 ⟨Nat.zero_le _, Nat.zero_le _⟩ (fun H locs hP hD hS => ?_)
    refine lv_goto (tgt := 157) hx hb dX8_read_149 (by decide) ?_
    refine lv_aload_n hx hb dX8_read_157 rfl (lv_at hl 0 rfl) ?_
    refine va_get (D := D) (ci := 8) (v := .int r5.1.2.2.2.2.2.1) (C := RX8) (T := TX8) (N := 48) hx hb hts layX8 hown hK hP 0 rfl rfl 11 (by decide) (hts _ (inA q989)) (fun _ h9 => h9) rfl dX8_read_158 ?_
    cases hM
    exact rt_i hx hb hr hlk hP hD hS rfl dX8_read_161

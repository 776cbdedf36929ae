set_option maxHeartbeats 4000000 in
set_option maxRecDepth 100000 in
theorem c_Tokens_unit (l : Launch) (D : va_G) (cI : ClassId) (sd : Nat → Nat) (ad : Nat → Nat) (o_this : S_Tokens) (o_text : S_Bytes) (res : Int64 × S_Tokens) (hM : f_Tokens_unit o_this o_text = some res) : Ctr l D cI sd yX2_unit (wsM yX2_unit cX2_unit 2 (Option.some Jvm.ClassFile.FieldType.long)) { frames := 1, cells := 0, slots := 0, locals := 21 } [.ref (ad 10)] (w_Tokens_this_text cI ad o_this o_text) (w_Tokens_this_text cI ad res.2 o_text) (some (.long res.1)) := by
  refine Ctr.of (cc := cX2_unit) (maxL := 2) (own := RX2) (by decide +kernel) rfl rfl (Nat.le_of_ble_eq_true rfl) ?_
  intro p e s m below meth c A ls hx hb hr hml hown hts hlk hK hE hA hP hD hS hl
  have hl : lv_has ls 2 [(0, .ref (ad 10))] := hl
  unfold f_Tokens_unit at hM
  refine lv_aload_n hx hb dX2_unit_0 rfl (lv_at hl 0 rfl) ?_
  refine va_get (D := D) (ci := 2) (v := .ref (ad 1)) (C := RX2) (T := TX2) (N := 7) hx hb hts layX2 hown hK hP 0 rfl rfl 0 (by decide) (hts _ (inA q331)) (fun _ h9 => h9) rfl dX2_unit_1 ?_
  refine lv_aload_n hx hb dX2_unit_4 rfl (lv_at hl 0 rfl) ?_
  refine va_get (D := D) (ci := 2) (v := .int o_this.2.1) (C := RX2) (T := TX2) (N := 7) hx hb hts layX2 hown hK hP 0 rfl rfl 6 (by decide) (hts _ (inA q341)) (fun _ h9 => h9) rfl dX2_unit_5 ?_
  obtain ⟨r1, hcr1, hM⟩ := ob_use hM
  refine cl_V (As := [.int o_this.2.1]) (rest := []) (w_Tokens_this_text cI ad o_this o_text) (.int r1 :: []) ⟨hx, hb, hml, hown, hts⟩ (c_Bytes_get l D cI sd (ad 1) (ad 2) 8192 o_text o_this.2.1 r1 hcr1) (cwV2 hts q530 mvX0_get rfl rfl ⟨(Nat.le_of_ble_eq_true rfl), (Nat.le_of_ble_eq_true rfl)⟩) hK hE hA hP hD hS 4 (T := TX0) (N := 2) (ci := 0) rfl rfl [4, 5] rfl (by decide) rfl rfl rfl rfl rfl rfl hl.1 (Nat.le_of_ble_eq_true rfl) dX2_unit_8 ⟨Nat.zero_le _, Nat.zero_le _⟩ (fun H locs hP hD hS => ?_)
  obtain ⟨r2, hcr2, hM⟩ := ob_use hM
  refine cl_SN (As := [.int r1]) (rest := []) (w_Tokens_this_text cI ad o_this o_text) (.int r2 :: []) ⟨hx, hb, hml, hown, hts⟩ (c_Top_great l D cI sd ad r1 r2 hcr2) (cwSN2 hts (nmE2 hE) mvX6_great rfl rfl ⟨(Nat.le_of_ble_eq_true rfl), (Nat.le_of_ble_eq_true rfl)⟩) hK hE hA hP hD hS [] rfl (by decide) rfl rfl rfl rfl rfl rfl hl.1 (Nat.le_of_ble_eq_true rfl) dX2_unit_11 ⟨Nat.zero_le _, Nat.zero_le _⟩ (fun H locs hP hD hS => ?_)
  refine lv_istore_n (lv' := [(1, .int r2), (0, .ref (ad 10))]) hx hb dX2_unit_14 rfl hl (by decide) rfl (fun ls hl => ?_)
  refine lv_iload_n hx hb dX2_unit_15 rfl (lv_at hl 0 rfl) ?_
  refine lv_bipush (v := 77) hx hb dX2_unit_16 (by decide) ?_
  refine lv_icmp_ne (tgt := 54) hx hb dX2_unit_18 (by decide) (fun c3 => ?_) (fun c3 => ?_)
  · replace hM := if_f c3 hM
    refine lv_aload_n hx hb dX2_unit_54 rfl (lv_at hl 1 rfl) ?_
    refine lv_dup hx hb dX2_unit_55 rfl ?_
    refine va_get (D := D) (ci := 2) (v := .int o_this.2.1) (C := RX2) (T := TX2) (N := 7) hx hb hts layX2 hown hK hP 0 rfl rfl 6 (by decide) (hts _ (inA q341)) (fun _ h9 => h9) rfl dX2_unit_56 ?_
    refine lv_iconst (v := 1) hx hb dX2_unit_59 (by decide) ?_
    refine lv_iadd hx hb dX2_unit_60 ?_
    refine va_put (D := D) (ci := 2) (v := .int (o_this.2.1 + 1)) (ty := .int) (C := RX2) (T := TX2) (N := 7) hx hb hts layX2 tyX2 tyX2_ok nmX2 hown hK hP hD hS 0 rfl rfl 6 (by decide) (hts _ (inA q341)) (fun _ h9 => h9) rfl (by decide +kernel) rfl rfl (Nat.le_of_ble_eq_true rfl) dX2_unit_61 (fun H locs hP hD hS => ?_)
    have hP : va_P D vwCl (w_Tokens_this_text cI ad (o_this.1, o_this.2.1 + 1, o_this.2.2) o_text) H := hP
    have hD : va_D A (w_Tokens_this_text cI ad (o_this.1, o_this.2.1 + 1, o_this.2.2) o_text) := hD
    refine lv_iload_n hx hb dX2_unit_64 rfl (lv_at hl 0 rfl) ?_
    by_cases c4 : r2 = 72
    · replace hM := if_t c4 hM
      refine lv_lookup (off := 43) (tgt := 108) hx hb dX2_unit_65 (by decide) (by exact sw_hit c4 (by decide)) (by decide) ?_
      refine lv_ldc2 (v := 3600000) hx hb hown (hts _ (inA q565)) dX2_unit_108 ?_
      cases hM
      exact rt_l hx hb hr hlk hP hD hS rfl dX2_unit_111
    replace hM := if_f c4 hM
    by_cases c5 : r2 = 77
    · replace hM := if_t c5 hM
      refine lv_lookup (off := 39) (tgt := 104) hx hb dX2_unit_65 (by decide) (by rw [lv_osw c4 (by decide)]; exact sw_hit c5 (by decide)) (by decide) ?_
      refine lv_ldc2 (v := 60000) hx hb hown (hts _ (inA q564)) dX2_unit_104 ?_
      cases hM
      exact rt_l hx hb hr hlk hP hD hS rfl dX2_unit_107
    replace hM := if_f c5 hM
    by_cases c6 : r2 = 83
    · replace hM := if_t c6 hM
      refine lv_lookup (off := 35) (tgt := 100) hx hb dX2_unit_65 (by decide) (by rw [lv_osw c4 (by decide)]; rw [lv_osw c5 (by decide)]; exact sw_hit c6 (by decide)) (by decide) ?_
      refine lv_ldc2 (v := 1000) hx hb hown (hts _ (inA q563)) dX2_unit_100 ?_
      cases hM
      exact rt_l hx hb hr hlk hP hD hS rfl dX2_unit_103
    replace hM := if_f c6 hM
    refine lv_lookup (off := 47) (tgt := 112) hx hb dX2_unit_65 (by decide) (by rw [lv_osw c4 (by decide)]; rw [lv_osw c5 (by decide)]; rw [lv_osw c6 (by decide)]; rfl) (by decide) ?_
    refine lv_ldc2 (v := (-1)) hx hb hown (hts _ (inA q558)) dX2_unit_112 ?_
    cases hM
    exact rt_l hx hb hr hlk hP hD hS rfl dX2_unit_115
  · replace hM := if_t c3 hM
    refine lv_aload_n hx hb dX2_unit_21 rfl (lv_at hl 1 rfl) ?_
    refine va_get (D := D) (ci := 2) (v := .ref (ad 1)) (C := RX2) (T := TX2) (N := 7) hx hb hts layX2 hown hK hP 0 rfl rfl 0 (by decide) (hts _ (inA q331)) (fun _ h9 => h9) rfl dX2_unit_22 ?_
    refine lv_aload_n hx hb dX2_unit_25 rfl (lv_at hl 1 rfl) ?_
    refine va_get (D := D) (ci := 2) (v := .int o_this.2.1) (C := RX2) (T := TX2) (N := 7) hx hb hts layX2 hown hK hP 0 rfl rfl 6 (by decide) (hts _ (inA q341)) (fun _ h9 => h9) rfl dX2_unit_26 ?_
    refine lv_iconst (v := 1) hx hb dX2_unit_29 (by decide) ?_
    refine lv_iadd hx hb dX2_unit_30 ?_
    obtain ⟨r7, hcr7, hM⟩ := ob_use hM
    refine cl_V (As := [.int (o_this.2.1 + 1)]) (rest := []) (w_Tokens_this_text cI ad o_this o_text) (.int r7 :: []) ⟨hx, hb, hml, hown, hts⟩ (c_Bytes_get l D cI sd (ad 1) (ad 2) 8192 o_text (o_this.2.1 + 1) r7 hcr7) (cwV2 hts q530 mvX0_get rfl rfl ⟨(Nat.le_of_ble_eq_true rfl), (Nat.le_of_ble_eq_true rfl)⟩) hK hE hA hP hD hS 4 (T := TX0) (N := 2) (ci := 0) rfl rfl [4, 5] rfl (by decide) rfl rfl rfl rfl rfl rfl hl.1 (Nat.le_of_ble_eq_true rfl) dX2_unit_31 ⟨Nat.zero_le _, Nat.zero_le _⟩ (fun H locs hP hD hS => ?_)
    obtain ⟨r8, hcr8, hM⟩ := ob_use hM
    refine cl_SN (As := [.int r7]) (rest := []) (w_Tokens_this_text cI ad o_this o_text) (.int r8 :: []) ⟨hx, hb, hml, hown, hts⟩ (c_Top_great l D cI sd ad r7 r8 hcr8) (cwSN2 hts (nmE2 hE) mvX6_great rfl rfl ⟨(Nat.le_of_ble_eq_true rfl), (Nat.le_of_ble_eq_true rfl)⟩) hK hE hA hP hD hS [] rfl (by decide) rfl rfl rfl rfl rfl rfl hl.1 (Nat.le_of_ble_eq_true rfl) dX2_unit_34 ⟨Nat.zero_le _, Nat.zero_le _⟩ (fun H locs hP hD hS => ?_)
    refine lv_bipush (v := 83) hx hb dX2_unit_37 (by decide) ?_
    refine lv_icmp_ne (tgt := 54) hx hb dX2_unit_39 (by decide) (fun c9 => ?_) (fun c9 => ?_)
    · replace hM := if_f c9 hM
      refine lv_aload_n hx hb dX2_unit_54 rfl (lv_at hl 1 rfl) ?_
      refine lv_dup hx hb dX2_unit_55 rfl ?_
      refine va_get (D := D) (ci := 2) (v := .int o_this.2.1) (C := RX2) (T := TX2) (N := 7) hx hb hts layX2 hown hK hP 0 rfl rfl 6 (by decide) (hts _ (inA q341)) (fun _ h9 => h9) rfl dX2_unit_56 ?_
      refine lv_iconst (v := 1) hx hb dX2_unit_59 (by decide) ?_
      refine lv_iadd hx hb dX2_unit_60 ?_
      refine va_put (D := D) (ci := 2) (v := .int (o_this.2.1 + 1)) (ty := .int) (C := RX2) (T := TX2) (N := 7) hx hb hts layX2 tyX2 tyX2_ok nmX2 hown hK hP hD hS 0 rfl rfl 6 (by decide) (hts _ (inA q341)) (fun _ h9 => h9) rfl (by decide +kernel) rfl rfl (Nat.le_of_ble_eq_true rfl) dX2_unit_61 (fun H locs hP hD hS => ?_)
      have hP : va_P D vwCl (w_Tokens_this_text cI ad (o_this.1, o_this.2.1 + 1, o_this.2.2) o_text) H := hP
      have hD : va_D A (w_Tokens_this_text cI ad (o_this.1, o_this.2.1 + 1, o_this.2.2) o_text) := hD
      refine lv_iload_n hx hb dX2_unit_64 rfl (lv_at hl 0 rfl) ?_
      by_cases c10 : r2 = 72
      · replace hM := if_t c10 hM
        refine lv_lookup (off := 43) (tgt := 108) hx hb dX2_unit_65 (by decide) (by exact sw_hit c10 (by decide)) (by decide) ?_
        refine lv_ldc2 (v := 3600000) hx hb hown (hts _ (inA q565)) dX2_unit_108 ?_
        cases hM
        exact rt_l hx hb hr hlk hP hD hS rfl dX2_unit_111
      replace hM := if_f c10 hM
      by_cases c11 : r2 = 77
      · replace hM := if_t c11 hM
        refine lv_lookup (off := 39) (tgt := 104) hx hb dX2_unit_65 (by decide) (by rw [lv_osw c10 (by decide)]; exact sw_hit c11 (by decide)) (by decide) ?_
        refine lv_ldc2 (v := 60000) hx hb hown (hts _ (inA q564)) dX2_unit_104 ?_
        cases hM
        exact rt_l hx hb hr hlk hP hD hS rfl dX2_unit_107
      replace hM := if_f c11 hM
      by_cases c12 : r2 = 83
      · replace hM := if_t c12 hM
        refine lv_lookup (off := 35) (tgt := 100) hx hb dX2_unit_65 (by decide) (by rw [lv_osw c10 (by decide)]; rw [lv_osw c11 (by decide)]; exact sw_hit c12 (by decide)) (by decide) ?_
        refine lv_ldc2 (v := 1000) hx hb hown (hts _ (inA q563)) dX2_unit_100 ?_
        cases hM
        exact rt_l hx hb hr hlk hP hD hS rfl dX2_unit_103
      replace hM := if_f c12 hM
      refine lv_lookup (off := 47) (tgt := 112) hx hb dX2_unit_65 (by decide) (by rw [lv_osw c10 (by decide)]; rw [lv_osw c11 (by decide)]; rw [lv_osw c12 (by decide)]; rfl) (by decide) ?_
      refine lv_ldc2 (v := (-1)) hx hb hown (hts _ (inA q558)) dX2_unit_112 ?_
      cases hM
      exact rt_l hx hb hr hlk hP hD hS rfl dX2_unit_115
    · replace hM := if_t c9 hM
      refine lv_aload_n hx hb dX2_unit_42 rfl (lv_at hl 1 rfl) ?_
      refine lv_dup hx hb dX2_unit_43 rfl ?_
      refine va_get (D := D) (ci := 2) (v := .int o_this.2.1) (C := RX2) (T := TX2) (N := 7) hx hb hts layX2 hown hK hP 0 rfl rfl 6 (by decide) (hts _ (inA q341)) (fun _ h9 => h9) rfl dX2_unit_44 ?_
      refine lv_iconst (v := 2) hx hb dX2_unit_47 (by decide) ?_
      refine lv_iadd hx hb dX2_unit_48 ?_
      refine va_put (D := D) (ci := 2) (v := .int (o_this.2.1 + 2)) (ty := .int) (C := RX2) (T := TX2) (N := 7) hx hb hts layX2 tyX2 tyX2_ok nmX2 hown hK hP hD hS 0 rfl rfl 6 (by decide) (hts _ (inA q341)) (fun _ h9 => h9) rfl (by decide +kernel) rfl rfl (Nat.le_of_ble_eq_true rfl) dX2_unit_49 (fun H locs hP hD hS => ?_)
      have hP : va_P D vwCl (w_Tokens_this_text cI ad (o_this.1, o_this.2.1 + 2, o_this.2.2) o_text) H := hP
      have hD : va_D A (w_Tokens_this_text cI ad (o_this.1, o_this.2.1 + 2, o_this.2.2) o_text) := hD
      refine lv_lconst (v := 1) hx hb dX2_unit_52 (by decide) ?_
      cases hM
      exact rt_l hx hb hr hlk hP hD hS rfl dX2_unit_53

set_option maxHeartbeats 4000000 in
set_option maxRecDepth 100000 in
theorem c_Tokens_scanTime (l : Launch) (D : va_G) (cI : ClassId) (sd : Nat → Nat) (ad : Nat → Nat) (o_this : S_Tokens) (o_text : S_Bytes) (res : S_Tokens) (hM : f_Tokens_scanTime o_this o_text = some res) : Ctr l D cI sd yX2_scanTime (wsM yX2_scanTime cX2_scanTime 6 (Option.none : Option Jvm.ClassFile.FieldType)) { frames := 3, cells := 0, slots := 0, locals := 67 } [.ref (ad 10)] (w_Tokens_this_text cI ad o_this o_text) (w_Tokens_this_text cI ad res o_text) none := by
  refine Ctr.of (cc := cX2_scanTime) (maxL := 6) (own := RX2) (by decide +kernel) rfl rfl (Nat.le_of_ble_eq_true rfl) ?_
  intro p e s m below meth c A ls hx hb hr hml hown hts hlk hK hE hA hP hD hS hl
  have hl : lv_has ls 6 [(0, .ref (ad 10))] := hl
  unfold f_Tokens_scanTime at hM
  refine lv_aload_n hx hb dX2_scanTime_0 rfl (lv_at hl 0 rfl) ?_
  refine va_get (D := D) (ci := 2) (v := .int o_this.2.1) (C := RX2) (T := TX2) (N := 7) hx hb hts layX2 hown hK hP 0 rfl rfl 6 (by decide) (hts _ (inA q341)) (fun _ h9 => h9) rfl dX2_scanTime_1 ?_
  refine lv_istore_n (lv' := [(1, .int o_this.2.1), (0, .ref (ad 10))]) hx hb dX2_scanTime_4 rfl hl (by decide) rfl (fun ls hl => ?_)
  refine lv_aload_n hx hb dX2_scanTime_5 rfl (lv_at hl 1 rfl) ?_
  refine lv_dup hx hb dX2_scanTime_6 rfl ?_
  refine va_get (D := D) (ci := 2) (v := .int o_this.2.1) (C := RX2) (T := TX2) (N := 7) hx hb hts layX2 hown hK hP 0 rfl rfl 6 (by decide) (hts _ (inA q341)) (fun _ h9 => h9) rfl dX2_scanTime_7 ?_
  refine lv_iconst (v := 2) hx hb dX2_scanTime_10 (by decide) ?_
  refine lv_iadd hx hb dX2_scanTime_11 ?_
  refine va_put (D := D) (ci := 2) (v := .int (o_this.2.1 + 2)) (ty := .int) (C := RX2) (T := TX2) (N := 7) hx hb hts layX2 tyX2 tyX2_ok nmX2 hown hK hP hD hS 0 rfl rfl 6 (by decide) (hts _ (inA q341)) (fun _ h9 => h9) rfl (by decide +kernel) rfl rfl (Nat.le_of_ble_eq_true rfl) dX2_scanTime_12 (fun H locs hP hD hS => ?_)
  have hP : va_P D vwCl (w_Tokens_this_text cI ad (o_this.1, o_this.2.1 + 2, o_this.2.2) o_text) H := hP
  have hD : va_D A (w_Tokens_this_text cI ad (o_this.1, o_this.2.1 + 2, o_this.2.2) o_text) := hD
  refine lv_aload_n hx hb dX2_scanTime_15 rfl (lv_at hl 1 rfl) ?_
  refine lv_bipush (v := 10) hx hb dX2_scanTime_16 (by decide) ?_
  obtain ⟨r1, hcr1, hM⟩ := ob_use hM
  refine cl_V (As := [.int 10]) (rest := []) (w_Tokens_this_text cI ad r1.2 o_text) (.long r1.1 :: []) ⟨hx, hb, hml, hown, hts⟩ (c_Tokens_digits l D cI sd ad (o_this.1, o_this.2.1 + 2, o_this.2.2) o_text 10 r1 hcr1) (cwV2 hts q544 mvX2_digits rfl rfl ⟨(Nat.le_of_ble_eq_true rfl), (Nat.le_of_ble_eq_true rfl)⟩) hK hE hA hP hD hS 0 (T := TX2) (N := 7) (ci := 2) rfl rfl [0, 1, 2, 3, 4, 5] rfl (by decide) rfl rfl rfl rfl rfl rfl hl.1 (Nat.le_of_ble_eq_true rfl) dX2_scanTime_18 ⟨Nat.zero_le _, Nat.zero_le _⟩ (fun H locs hP hD hS => ?_)
  refine lv_lstore_n (lv' := [(2, .long r1.1), (1, .int o_this.2.1), (0, .ref (ad 10))]) hx hb dX2_scanTime_21 rfl hl (by decide) rfl (fun ls hl => ?_)
  refine lv_aload_n hx hb dX2_scanTime_22 rfl (lv_at hl 2 rfl) ?_
  obtain ⟨r2, hcr2, hM⟩ := ob_use hM
  refine cl_V (As := []) (rest := []) (w_Tokens_this_text cI ad r2.2 o_text) (.long r2.1 :: []) ⟨hx, hb, hml, hown, hts⟩ (c_Tokens_unit l D cI sd ad r1.2 o_text r2 hcr2) (cwV2 hts q559 mvX2_unit rfl rfl ⟨(Nat.le_of_ble_eq_true rfl), (Nat.le_of_ble_eq_true rfl)⟩) hK hE hA hP hD hS 0 (T := TX2) (N := 7) (ci := 2) rfl rfl [0, 1, 2, 3, 4, 5] rfl (by decide) rfl rfl rfl rfl rfl rfl hl.1 (Nat.le_of_ble_eq_true rfl) dX2_scanTime_23 ⟨Nat.zero_le _, Nat.zero_le _⟩ (fun H locs hP hD hS => ?_)
  refine lv_lstore (lv' := [(4, .long r2.1), (2, .long r1.1), (1, .int o_this.2.1), (0, .ref (ad 10))]) hx hb dX2_scanTime_26 hl (by decide) rfl (fun ls hl => ?_)
  refine lv_aload_n hx hb dX2_scanTime_28 rfl (lv_at hl 3 rfl) ?_
  refine lv_iload_n hx hb dX2_scanTime_29 rfl (lv_at hl 2 rfl) ?_
  refine lv_lload_n hx hb dX2_scanTime_30 rfl (lv_at hl 1 rfl) ?_
  refine lv_ldc2 (v := (-1)) hx hb hown (hts _ (inA q558)) dX2_scanTime_31 ?_
  refine W.lcmp hx hb dX2_scanTime_34 ?_
  refine lv_if_eq (tgt := 47) hx hb dX2_scanTime_35 (by decide) (fun c3 => ?_) (fun c3 => ?_)
  · replace hM := if_t c3 hM
    refine lv_ldc2 (v := (-1)) hx hb hown (hts _ (inA q558)) dX2_scanTime_47 ?_
    refine lv_goto (tgt := 57) hx hb dX2_scanTime_50 (by decide) ?_
    obtain ⟨r4, hcr4, hM⟩ := ob_use hM
    refine cl_V (As := [.int o_this.2.1, .long (-1)]) (rest := []) (w_Tokens_this_text cI ad r4 o_text) [] ⟨hx, hb, hml, hown, hts⟩ (c_Tokens_addNumber l D cI sd ad r2.2 o_text o_this.2.1 (-1) r4 hcr4) (cwV2 hts q566 mvX2_addNumber rfl rfl ⟨(Nat.le_of_ble_eq_true rfl), (Nat.le_of_ble_eq_true rfl)⟩) hK hE hA hP hD hS 0 (T := TX2) (N := 7) (ci := 2) rfl rfl [0, 1, 2, 3, 4, 5] rfl (by decide) rfl rfl rfl rfl rfl rfl hl.1 (Nat.le_of_ble_eq_true rfl) dX2_scanTime_57 ⟨Nat.zero_le _, Nat.zero_le _⟩ (fun H locs hP hD hS => ?_)
    cases hM
    exact rt_v hx hb hr hlk hP hD hS rfl dX2_scanTime_60
  · replace hM := if_f c3 hM
    refine lv_lload hx hb dX2_scanTime_38 (lv_at hl 0 rfl) ?_
    refine lv_ldc2 (v := (-1)) hx hb hown (hts _ (inA q558)) dX2_scanTime_40 ?_
    refine W.lcmp hx hb dX2_scanTime_43 ?_
    refine lv_if_ne (tgt := 53) hx hb dX2_scanTime_44 (by decide) (fun c5 => ?_) (fun c5 => ?_)
    · replace hM := if_f c5 hM
      refine lv_lload_n hx hb dX2_scanTime_53 rfl (lv_at hl 1 rfl) ?_
      refine lv_lload hx hb dX2_scanTime_54 (lv_at hl 0 rfl) ?_
      refine lv_lmul hx hb dX2_scanTime_56 ?_
      obtain ⟨r6, hcr6, hM⟩ := ob_use hM
      refine cl_V (As := [.int o_this.2.1, .long (r1.1 * r2.1)]) (rest := []) (w_Tokens_this_text cI ad r6 o_text) [] ⟨hx, hb, hml, hown, hts⟩ (c_Tokens_addNumber l D cI sd ad r2.2 o_text o_this.2.1 (r1.1 * r2.1) r6 hcr6) (cwV2 hts q566 mvX2_addNumber rfl rfl ⟨(Nat.le_of_ble_eq_true rfl), (Nat.le_of_ble_eq_true rfl)⟩) hK hE hA hP hD hS 0 (T := TX2) (N := 7) (ci := 2) rfl rfl [0, 1, 2, 3, 4, 5] rfl (by decide) rfl rfl rfl rfl rfl rfl hl.1 (Nat.le_of_ble_eq_true rfl) dX2_scanTime_57 ⟨Nat.zero_le _, Nat.zero_le _⟩ (fun H locs hP hD hS => ?_)
      cases hM
      exact rt_v hx hb hr hlk hP hD hS rfl dX2_scanTime_60
    · replace hM := if_t c5 hM
      refine lv_ldc2 (v := (-1)) hx hb hown (hts _ (inA q558)) dX2_scanTime_47 ?_
      refine lv_goto (tgt := 57) hx hb dX2_scanTime_50 (by decide) ?_
      obtain ⟨r7, hcr7, hM⟩ := ob_use hM
      refine cl_V (As := [.int o_this.2.1, .long (-1)]) (rest := []) (w_Tokens_this_text cI ad r7 o_text) [] ⟨hx, hb, hml, hown, hts⟩ (c_Tokens_addNumber l D cI sd ad r2.2 o_text o_this.2.1 (-1) r7 hcr7) (cwV2 hts q566 mvX2_addNumber rfl rfl ⟨(Nat.le_of_ble_eq_true rfl), (Nat.le_of_ble_eq_true rfl)⟩) hK hE hA hP hD hS 0 (T := TX2) (N := 7) (ci := 2) rfl rfl [0, 1, 2, 3, 4, 5] rfl (by decide) rfl rfl rfl rfl rfl rfl hl.1 (Nat.le_of_ble_eq_true rfl) dX2_scanTime_57 ⟨Nat.zero_le _, Nat.zero_le _⟩ (fun H locs hP hD hS => ?_)
      cases hM
      exact rt_v hx hb hr hlk hP hD hS rfl dX2_scanTime_60

set_option maxHeartbeats 4000000 in
set_option maxRecDepth 100000 in
theorem c_Tokens_endOfComment (l : Launch) (D : va_G) (cI : ClassId) (sd : Nat → Nat) (ad : Nat → Nat) (o_this : S_Tokens) (o_text : S_Bytes) (a1 : Int32) (res : Int32) (hM : f_Tokens_endOfComment o_this o_text a1 = some res) : Ctr l D cI sd yX2_endOfComment (wsM yX2_endOfComment cX2_endOfComment 3 (Option.some Jvm.ClassFile.FieldType.int)) { frames := 1, cells := 0, slots := 0, locals := 21 } [.ref (ad 10), .int a1] (w_Tokens_this_text cI ad o_this o_text) (w_Tokens_this_text cI ad o_this o_text) (some (.int res)) := by
  refine Ctr.of (cc := cX2_endOfComment) (maxL := 3) (own := RX2) (by decide +kernel) rfl rfl (Nat.le_of_ble_eq_true rfl) ?_
  intro p e s m below meth c A ls hx hb hr hml hown hts hlk hK hE hA hP hD hS hl
  have hl : lv_has ls 3 [(0, .ref (ad 10)), (1, .int a1)] := hl
  unfold f_Tokens_endOfComment at hM
  refine lv_iload_n hx hb dX2_endOfComment_0 rfl (lv_at hl 1 rfl) ?_
  refine lv_istore_n (lv' := [(2, .int a1), (0, .ref (ad 10)), (1, .int a1)]) hx hb dX2_endOfComment_1 rfl hl (by decide) rfl (fun ls hl => ?_)
  have lp_L2 : ∀ (n : Nat) (v2_L2 : Int32) (H : Heap) (locs : List Loc) (ls : Array Slot), f_Tokens_endOfComment_L2 o_text n v2_L2 = some res → va_P D vwCl (w_Tokens_this_text cI ad o_this o_text) H → va_D A (w_Tokens_this_text cI ad o_this o_text) → va_S A s.heap H locs → lv_has ls 3 [(2, .int v2_L2), (0, .ref (ad 10))] → W p l e { frames := 1, cells := 0, slots := 0, locals := 21 } s m [.ref (ad 10), .int a1].toArray below meth c H locs 0 0 (MQ below (CQ D A (w_Tokens_this_text cI ad o_this o_text) (some (.int res))) [.ref (ad 10), .int a1].toArray s 0 0 A) (F0 m 2 ls []) := by
    intro  n
    induction n with
    | zero => intro v2_L2 H locs ls hM; exact absurd (show none = some _ from hM) (by simp)
    | succ n ih_L2 =>
      intro v2_L2 H locs ls hM hP hD hS hl
      rw [f_Tokens_endOfComment_L2] at hM
      refine lv_iload_n hx hb dX2_endOfComment_2 rfl (lv_at hl 0 rfl) ?_
      refine lv_aload_n hx hb dX2_endOfComment_3 rfl (lv_at hl 1 rfl) ?_
      refine va_get (D := D) (ci := 2) (v := .ref (ad 1)) (C := RX2) (T := TX2) (N := 7) hx hb hts layX2 hown hK hP 0 rfl rfl 0 (by decide) (hts _ (inA q331)) (fun _ h9 => h9) rfl dX2_endOfComment_4 ?_
      refine va_getN (D := D) (ci := 0) (v := .int o_text.1) (C := RX0) (T := TX0) (N := 2) hx hb hts layX0 hown hK hP 4 rfl rfl 1 (by decide) (nfE1 hE) (fun _ h9 => h9) rfl dX2_endOfComment_7 ?_
      refine lv_icmp_ge (tgt := 51) hx hb dX2_endOfComment_10 (by decide) (fun c1121 => ?_) (fun c1121 => ?_)
      · replace hM := if_t c1121 hM
        refine lv_iconst (v := (-1)) hx hb dX2_endOfComment_51 (by decide) ?_
        cases hM
        exact rt_i hx hb hr hlk hP hD hS rfl dX2_endOfComment_52
      · replace hM := if_f c1121 hM
        refine lv_aload_n hx hb dX2_endOfComment_13 rfl (lv_at hl 1 rfl) ?_
        refine va_get (D := D) (ci := 2) (v := .ref (ad 1)) (C := RX2) (T := TX2) (N := 7) hx hb hts layX2 hown hK hP 0 rfl rfl 0 (by decide) (hts _ (inA q331)) (fun _ h9 => h9) rfl dX2_endOfComment_14 ?_
        refine lv_iload_n hx hb dX2_endOfComment_17 rfl (lv_at hl 0 rfl) ?_
        obtain ⟨r1122, hcr1122, hM⟩ := ob_use hM
        refine cl_V (As := [.int v2_L2]) (rest := []) (w_Tokens_this_text cI ad o_this o_text) (.int r1122 :: []) ⟨hx, hb, hml, hown, hts⟩ (c_Bytes_get l D cI sd (ad 1) (ad 2) 8192 o_text v2_L2 r1122 hcr1122) (cwV2 hts q530 mvX0_get rfl rfl ⟨(Nat.le_of_ble_eq_true rfl), (Nat.le_of_ble_eq_true rfl)⟩) hK hE hA hP hD hS 4 (T := TX0) (N := 2) (ci := 0) rfl rfl [4, 5] rfl (by decide) rfl rfl rfl rfl rfl rfl hl.1 (Nat.le_of_ble_eq_true rfl) dX2_endOfComment_18 ⟨Nat.zero_le _, Nat.zero_le _⟩ (fun H locs hP hD hS => ?_)
        refine lv_bipush (v := 42) hx hb dX2_endOfComment_21 (by decide) ?_
        refine lv_icmp_ne (tgt := 45) hx hb dX2_endOfComment_23 (by decide) (fun c1123 => ?_) (fun c1123 => ?_)
        · replace hM := if_f c1123 hM
          obtain ⟨x1124, ex1124⟩ : ∃ y : Int32, y = v2_L2 + 1 := ⟨_, rfl⟩
          replace hM := nm_use ex1124 hM
          refine lv_iinc (v := x1124) (lv' := [(2, .int x1124), (0, .ref (ad 10))]) hx hb dX2_endOfComment_45 hl (k := 0) rfl (by rw [ex1124]; rfl) (by decide) rfl (fun ls hl => ?_)
          refine lv_goto (tgt := 2) hx hb dX2_endOfComment_48 (by decide) ?_
          exact ih_L2 x1124 _ _ _ hM hP hD hS (lv_sub hl [0, 1] rfl)
        · replace hM := if_t c1123 hM
          refine lv_aload_n hx hb dX2_endOfComment_26 rfl (lv_at hl 1 rfl) ?_
          refine va_get (D := D) (ci := 2) (v := .ref (ad 1)) (C := RX2) (T := TX2) (N := 7) hx hb hts layX2 hown hK hP 0 rfl rfl 0 (by decide) (hts _ (inA q331)) (fun _ h9 => h9) rfl dX2_endOfComment_27 ?_
          refine lv_iload_n hx hb dX2_endOfComment_30 rfl (lv_at hl 0 rfl) ?_
          refine lv_iconst (v := 1) hx hb dX2_endOfComment_31 (by decide) ?_
          refine lv_iadd hx hb dX2_endOfComment_32 ?_
          obtain ⟨r1125, hcr1125, hM⟩ := ob_use hM
          refine cl_V (As := [.int (v2_L2 + 1)]) (rest := []) (w_Tokens_this_text cI ad o_this o_text) (.int r1125 :: []) ⟨hx, hb, hml, hown, hts⟩ (c_Bytes_get l D cI sd (ad 1) (ad 2) 8192 o_text (v2_L2 + 1) r1125 hcr1125) (cwV2 hts q530 mvX0_get rfl rfl ⟨(Nat.le_of_ble_eq_true rfl), (Nat.le_of_ble_eq_true rfl)⟩) hK hE hA hP hD hS 4 (T := TX0) (N := 2) (ci := 0) rfl rfl [4, 5] rfl (by decide) rfl rfl rfl rfl rfl rfl hl.1 (Nat.le_of_ble_eq_true rfl) dX2_endOfComment_33 ⟨Nat.zero_le _, Nat.zero_le _⟩ (fun H locs hP hD hS => ?_)
          refine lv_bipush (v := 41) hx hb dX2_endOfComment_36 (by decide) ?_
          refine lv_icmp_ne (tgt := 45) hx hb dX2_endOfComment_38 (by decide) (fun c1126 => ?_) (fun c1126 => ?_)
          · replace hM := if_f c1126 hM
            obtain ⟨x1127, ex1127⟩ : ∃ y : Int32, y = v2_L2 + 1 := ⟨_, rfl⟩
            replace hM := nm_use ex1127 hM
            refine lv_iinc (v := x1127) (lv' := [(2, .int x1127), (0, .ref (ad 10))]) hx hb dX2_endOfComment_45 hl (k := 0) rfl (by rw [ex1127]; rfl) (by decide) rfl (fun ls hl => ?_)
            refine lv_goto (tgt := 2) hx hb dX2_endOfComment_48 (by decide) ?_
            exact ih_L2 x1127 _ _ _ hM hP hD hS (lv_sub hl [0, 1] rfl)
          · replace hM := if_t c1126 hM
            refine lv_iload_n hx hb dX2_endOfComment_41 rfl (lv_at hl 0 rfl) ?_
            refine lv_iconst (v := 2) hx hb dX2_endOfComment_42 (by decide) ?_
            refine lv_iadd hx hb dX2_endOfComment_43 ?_
            cases hM
            exact rt_i hx hb hr hlk hP hD hS rfl dX2_endOfComment_44
  exact lp_L2 FU a1 _ _ _ hM hP hD hS (lv_sub hl [0, 1] rfl)

set_option maxHeartbeats 4000000 in
set_option maxRecDepth 100000 in
theorem c_Tokens_skipBlanks (l : Launch) (D : va_G) (cI : ClassId) (sd : Nat → Nat) (ad : Nat → Nat) (o_this : S_Tokens) (o_text : S_Bytes) (res : Int32 × S_Tokens) (hM : f_Tokens_skipBlanks o_this o_text = some res) : Ctr l D cI sd yX2_skipBlanks (wsM yX2_skipBlanks cX2_skipBlanks 4 (Option.some Jvm.ClassFile.FieldType.boolean)) { frames := 2, cells := 0, slots := 0, locals := 43 } [.ref (ad 10)] (w_Tokens_this_text cI ad o_this o_text) (w_Tokens_this_text cI ad res.2 o_text) (some (.int res.1)) := by
  refine Ctr.of (cc := cX2_skipBlanks) (maxL := 4) (own := RX2) (by decide +kernel) rfl rfl (Nat.le_of_ble_eq_true rfl) ?_
  intro p e s m below meth c A ls hx hb hr hml hown hts hlk hK hE hA hP hD hS hl
  have hl : lv_has ls 4 [(0, .ref (ad 10))] := hl
  unfold f_Tokens_skipBlanks at hM
  refine lv_iconst (v := 0) hx hb dX2_skipBlanks_0 (by decide) ?_
  refine lv_istore_n (lv' := [(1, .int 0), (0, .ref (ad 10))]) hx hb dX2_skipBlanks_1 rfl hl (by decide) rfl (fun ls hl => ?_)
  have lp_L2 : ∀ (n : Nat) (v1_L2 : Int32) (o_this_L2 : S_Tokens) (H : Heap) (locs : List Loc) (ls : Array Slot), f_Tokens_skipBlanks_L2 o_text n v1_L2 o_this_L2 = some res → va_P D vwCl (w_Tokens_this_text cI ad o_this_L2 o_text) H → va_D A (w_Tokens_this_text cI ad o_this_L2 o_text) → va_S A s.heap H locs → lv_has ls 4 [(1, .int v1_L2), (0, .ref (ad 10))] → W p l e { frames := 2, cells := 0, slots := 0, locals := 43 } s m [.ref (ad 10)].toArray below meth c H locs 0 0 (MQ below (CQ D A (w_Tokens_this_text cI ad res.2 o_text) (some (.int res.1))) [.ref (ad 10)].toArray s 0 0 A) (F0 m 2 ls []) := by
    intro  n
    induction n with
    | zero => intro v1_L2 o_this_L2 H locs ls hM; exact absurd (show none = some _ from hM) (by simp)
    | succ n ih_L2 =>
      intro v1_L2 o_this_L2 H locs ls hM hP hD hS hl
      rw [f_Tokens_skipBlanks_L2] at hM
      refine lv_iload_n hx hb dX2_skipBlanks_2 rfl (lv_at hl 0 rfl) ?_
      refine lv_sipush (v := 8192) hx hb dX2_skipBlanks_3 (by decide) ?_
      refine lv_icmp_gt (tgt := 116) hx hb dX2_skipBlanks_6 (by decide) (fun c1121 => ?_) (fun c1121 => ?_)
      · replace hM := if_t c1121 hM
        refine lv_iconst (v := 1) hx hb dX2_skipBlanks_116 (by decide) ?_
        cases hM
        exact rt_z hx hb hr hlk (by decide) hP hD hS rfl dX2_skipBlanks_117
      · replace hM := if_f c1121 hM
        refine lv_aload_n hx hb dX2_skipBlanks_9 rfl (lv_at hl 1 rfl) ?_
        refine va_get (D := D) (ci := 2) (v := .ref (ad 1)) (C := RX2) (T := TX2) (N := 7) hx hb hts layX2 hown hK hP 0 rfl rfl 0 (by decide) (hts _ (inA q331)) (fun _ h9 => h9) rfl dX2_skipBlanks_10 ?_
        refine lv_aload_n hx hb dX2_skipBlanks_13 rfl (lv_at hl 1 rfl) ?_
        refine va_get (D := D) (ci := 2) (v := .int o_this_L2.2.1) (C := RX2) (T := TX2) (N := 7) hx hb hts layX2 hown hK hP 0 rfl rfl 6 (by decide) (hts _ (inA q341)) (fun _ h9 => h9) rfl dX2_skipBlanks_14 ?_
        obtain ⟨r1122, hcr1122, hM⟩ := ob_use hM
        refine cl_V (As := [.int o_this_L2.2.1]) (rest := []) (w_Tokens_this_text cI ad o_this_L2 o_text) (.int r1122 :: []) ⟨hx, hb, hml, hown, hts⟩ (c_Bytes_get l D cI sd (ad 1) (ad 2) 8192 o_text o_this_L2.2.1 r1122 hcr1122) (cwV2 hts q530 mvX0_get rfl rfl ⟨(Nat.le_of_ble_eq_true rfl), (Nat.le_of_ble_eq_true rfl)⟩) hK hE hA hP hD hS 4 (T := TX0) (N := 2) (ci := 0) rfl rfl [4, 5] rfl (by decide) rfl rfl rfl rfl rfl rfl hl.1 (Nat.le_of_ble_eq_true rfl) dX2_skipBlanks_17 ⟨Nat.zero_le _, Nat.zero_le _⟩ (fun H locs hP hD hS => ?_)
        refine lv_istore_n (lv' := [(2, .int r1122), (1, .int v1_L2), (0, .ref (ad 10))]) hx hb dX2_skipBlanks_20 rfl hl (by decide) rfl (fun ls hl => ?_)
        refine lv_iload_n hx hb dX2_skipBlanks_21 rfl (lv_at hl 0 rfl) ?_
        refine lv_bipush (v := 40) hx hb dX2_skipBlanks_22 (by decide) ?_
        refine lv_icmp_ne (tgt := 71) hx hb dX2_skipBlanks_24 (by decide) (fun c1123 => ?_) (fun c1123 => ?_)
        · replace hM := if_f c1123 hM
          refine lv_iload_n hx hb dX2_skipBlanks_71 rfl (lv_at hl 0 rfl) ?_
          refine lv_bipush (v := 9) hx hb dX2_skipBlanks_72 (by decide) ?_
          refine lv_icmp_eq (tgt := 95) hx hb dX2_skipBlanks_74 (by decide) (fun c1124 => ?_) (fun c1124 => ?_)
          · replace hM := if_t c1124 hM
            refine lv_aload_n hx hb dX2_skipBlanks_95 rfl (lv_at hl 2 rfl) ?_
            refine lv_dup hx hb dX2_skipBlanks_96 rfl ?_
            refine va_get (D := D) (ci := 2) (v := .int o_this_L2.2.1) (C := RX2) (T := TX2) (N := 7) hx hb hts layX2 hown hK hP 0 rfl rfl 6 (by decide) (hts _ (inA q341)) (fun _ h9 => h9) rfl dX2_skipBlanks_97 ?_
            refine lv_iconst (v := 1) hx hb dX2_skipBlanks_100 (by decide) ?_
            refine lv_iadd hx hb dX2_skipBlanks_101 ?_
            refine va_put (D := D) (ci := 2) (v := .int (o_this_L2.2.1 + 1)) (ty := .int) (C := RX2) (T := TX2) (N := 7) hx hb hts layX2 tyX2 tyX2_ok nmX2 hown hK hP hD hS 0 rfl rfl 6 (by decide) (hts _ (inA q341)) (fun _ h9 => h9) rfl (by decide +kernel) rfl rfl (Nat.le_of_ble_eq_true rfl) dX2_skipBlanks_102 (fun H locs hP hD hS => ?_)
            have hP : va_P D vwCl (w_Tokens_this_text cI ad (o_this_L2.1, o_this_L2.2.1 + 1, o_this_L2.2.2) o_text) H := hP
            have hD : va_D A (w_Tokens_this_text cI ad (o_this_L2.1, o_this_L2.2.1 + 1, o_this_L2.2.2) o_text) := hD
            refine lv_goto (tgt := 110) hx hb dX2_skipBlanks_105 (by decide) ?_
            obtain ⟨x1125, ex1125⟩ : ∃ y : Int32, y = v1_L2 + 1 := ⟨_, rfl⟩
            replace hM := nm_use ex1125 hM
            refine lv_iinc (v := x1125) (lv' := [(1, .int x1125), (2, .int r1122), (0, .ref (ad 10))]) hx hb dX2_skipBlanks_110 hl (k := 1) rfl (by rw [ex1125]; rfl) (by decide) rfl (fun ls hl => ?_)
            refine lv_goto (tgt := 2) hx hb dX2_skipBlanks_113 (by decide) ?_
            exact ih_L2 x1125 (o_this_L2.1, o_this_L2.2.1 + 1, o_this_L2.2.2) _ _ _ hM hP hD hS (lv_sub hl [0, 2] rfl)
          · replace hM := if_f c1124 hM
            refine lv_iload_n hx hb dX2_skipBlanks_77 rfl (lv_at hl 0 rfl) ?_
            refine lv_bipush (v := 10) hx hb dX2_skipBlanks_78 (by decide) ?_
            refine lv_icmp_eq (tgt := 95) hx hb dX2_skipBlanks_80 (by decide) (fun c1126 => ?_) (fun c1126 => ?_)
            · replace hM := if_t c1126 hM
              refine lv_aload_n hx hb dX2_skipBlanks_95 rfl (lv_at hl 2 rfl) ?_
              refine lv_dup hx hb dX2_skipBlanks_96 rfl ?_
              refine va_get (D := D) (ci := 2) (v := .int o_this_L2.2.1) (C := RX2) (T := TX2) (N := 7) hx hb hts layX2 hown hK hP 0 rfl rfl 6 (by decide) (hts _ (inA q341)) (fun _ h9 => h9) rfl dX2_skipBlanks_97 ?_
              refine lv_iconst (v := 1) hx hb dX2_skipBlanks_100 (by decide) ?_
              refine lv_iadd hx hb dX2_skipBlanks_101 ?_
              refine va_put (D := D) (ci := 2) (v := .int (o_this_L2.2.1 + 1)) (ty := .int) (C := RX2) (T := TX2) (N := 7) hx hb hts layX2 tyX2 tyX2_ok nmX2 hown hK hP hD hS 0 rfl rfl 6 (by decide) (hts _ (inA q341)) (fun _ h9 => h9) rfl (by decide +kernel) rfl rfl (Nat.le_of_ble_eq_true rfl) dX2_skipBlanks_102 (fun H locs hP hD hS => ?_)
              have hP : va_P D vwCl (w_Tokens_this_text cI ad (o_this_L2.1, o_this_L2.2.1 + 1, o_this_L2.2.2) o_text) H := hP
              have hD : va_D A (w_Tokens_this_text cI ad (o_this_L2.1, o_this_L2.2.1 + 1, o_this_L2.2.2) o_text) := hD
              refine lv_goto (tgt := 110) hx hb dX2_skipBlanks_105 (by decide) ?_
              obtain ⟨x1127, ex1127⟩ : ∃ y : Int32, y = v1_L2 + 1 := ⟨_, rfl⟩
              replace hM := nm_use ex1127 hM
              refine lv_iinc (v := x1127) (lv' := [(1, .int x1127), (2, .int r1122), (0, .ref (ad 10))]) hx hb dX2_skipBlanks_110 hl (k := 1) rfl (by rw [ex1127]; rfl) (by decide) rfl (fun ls hl => ?_)
              refine lv_goto (tgt := 2) hx hb dX2_skipBlanks_113 (by decide) ?_
              exact ih_L2 x1127 (o_this_L2.1, o_this_L2.2.1 + 1, o_this_L2.2.2) _ _ _ hM hP hD hS (lv_sub hl [0, 2] rfl)
            · replace hM := if_f c1126 hM
              refine lv_iload_n hx hb dX2_skipBlanks_83 rfl (lv_at hl 0 rfl) ?_
              refine lv_bipush (v := 13) hx hb dX2_skipBlanks_84 (by decide) ?_
              refine lv_icmp_eq (tgt := 95) hx hb dX2_skipBlanks_86 (by decide) (fun c1128 => ?_) (fun c1128 => ?_)
              · replace hM := if_t c1128 hM
                refine lv_aload_n hx hb dX2_skipBlanks_95 rfl (lv_at hl 2 rfl) ?_
                refine lv_dup hx hb dX2_skipBlanks_96 rfl ?_
                refine va_get (D := D) (ci := 2) (v := .int o_this_L2.2.1) (C := RX2) (T := TX2) (N := 7) hx hb hts layX2 hown hK hP 0 rfl rfl 6 (by decide) (hts _ (inA q341)) (fun _ h9 => h9) rfl dX2_skipBlanks_97 ?_
                refine lv_iconst (v := 1) hx hb dX2_skipBlanks_100 (by decide) ?_
                refine lv_iadd hx hb dX2_skipBlanks_101 ?_
                refine va_put (D := D) (ci := 2) (v := .int (o_this_L2.2.1 + 1)) (ty := .int) (C := RX2) (T := TX2) (N := 7) hx hb hts layX2 tyX2 tyX2_ok nmX2 hown hK hP hD hS 0 rfl rfl 6 (by decide) (hts _ (inA q341)) (fun _ h9 => h9) rfl (by decide +kernel) rfl rfl (Nat.le_of_ble_eq_true rfl) dX2_skipBlanks_102 (fun H locs hP hD hS => ?_)
                have hP : va_P D vwCl (w_Tokens_this_text cI ad (o_this_L2.1, o_this_L2.2.1 + 1, o_this_L2.2.2) o_text) H := hP
                have hD : va_D A (w_Tokens_this_text cI ad (o_this_L2.1, o_this_L2.2.1 + 1, o_this_L2.2.2) o_text) := hD
                refine lv_goto (tgt := 110) hx hb dX2_skipBlanks_105 (by decide) ?_
                obtain ⟨x1129, ex1129⟩ : ∃ y : Int32, y = v1_L2 + 1 := ⟨_, rfl⟩
                replace hM := nm_use ex1129 hM
                refine lv_iinc (v := x1129) (lv' := [(1, .int x1129), (2, .int r1122), (0, .ref (ad 10))]) hx hb dX2_skipBlanks_110 hl (k := 1) rfl (by rw [ex1129]; rfl) (by decide) rfl (fun ls hl => ?_)
                refine lv_goto (tgt := 2) hx hb dX2_skipBlanks_113 (by decide) ?_
                exact ih_L2 x1129 (o_this_L2.1, o_this_L2.2.1 + 1, o_this_L2.2.2) _ _ _ hM hP hD hS (lv_sub hl [0, 2] rfl)
              · replace hM := if_f c1128 hM
                refine lv_iload_n hx hb dX2_skipBlanks_89 rfl (lv_at hl 0 rfl) ?_
                refine lv_bipush (v := 32) hx hb dX2_skipBlanks_90 (by decide) ?_
                refine lv_icmp_ne (tgt := 108) hx hb dX2_skipBlanks_92 (by decide) (fun c1130 => ?_) (fun c1130 => ?_)
                · replace hM := if_f c1130 hM
                  refine lv_iconst (v := 1) hx hb dX2_skipBlanks_108 (by decide) ?_
                  cases hM
                  exact rt_z hx hb hr hlk (by decide) hP hD hS rfl dX2_skipBlanks_109
                · replace hM := if_t c1130 hM
                  refine lv_aload_n hx hb dX2_skipBlanks_95 rfl (lv_at hl 2 rfl) ?_
                  refine lv_dup hx hb dX2_skipBlanks_96 rfl ?_
                  refine va_get (D := D) (ci := 2) (v := .int o_this_L2.2.1) (C := RX2) (T := TX2) (N := 7) hx hb hts layX2 hown hK hP 0 rfl rfl 6 (by decide) (hts _ (inA q341)) (fun _ h9 => h9) rfl dX2_skipBlanks_97 ?_
                  refine lv_iconst (v := 1) hx hb dX2_skipBlanks_100 (by decide) ?_
                  refine lv_iadd hx hb dX2_skipBlanks_101 ?_
                  refine va_put (D := D) (ci := 2) (v := .int (o_this_L2.2.1 + 1)) (ty := .int) (C := RX2) (T := TX2) (N := 7) hx hb hts layX2 tyX2 tyX2_ok nmX2 hown hK hP hD hS 0 rfl rfl 6 (by decide) (hts _ (inA q341)) (fun _ h9 => h9) rfl (by decide +kernel) rfl rfl (Nat.le_of_ble_eq_true rfl) dX2_skipBlanks_102 (fun H locs hP hD hS => ?_)
                  have hP : va_P D vwCl (w_Tokens_this_text cI ad (o_this_L2.1, o_this_L2.2.1 + 1, o_this_L2.2.2) o_text) H := hP
                  have hD : va_D A (w_Tokens_this_text cI ad (o_this_L2.1, o_this_L2.2.1 + 1, o_this_L2.2.2) o_text) := hD
                  refine lv_goto (tgt := 110) hx hb dX2_skipBlanks_105 (by decide) ?_
                  obtain ⟨x1131, ex1131⟩ : ∃ y : Int32, y = v1_L2 + 1 := ⟨_, rfl⟩
                  replace hM := nm_use ex1131 hM
                  refine lv_iinc (v := x1131) (lv' := [(1, .int x1131), (2, .int r1122), (0, .ref (ad 10))]) hx hb dX2_skipBlanks_110 hl (k := 1) rfl (by rw [ex1131]; rfl) (by decide) rfl (fun ls hl => ?_)
                  refine lv_goto (tgt := 2) hx hb dX2_skipBlanks_113 (by decide) ?_
                  exact ih_L2 x1131 (o_this_L2.1, o_this_L2.2.1 + 1, o_this_L2.2.2) _ _ _ hM hP hD hS (lv_sub hl [0, 2] rfl)
        · replace hM := if_t c1123 hM
          refine lv_aload_n hx hb dX2_skipBlanks_27 rfl (lv_at hl 2 rfl) ?_
          refine va_get (D := D) (ci := 2) (v := .ref (ad 1)) (C := RX2) (T := TX2) (N := 7) hx hb hts layX2 hown hK hP 0 rfl rfl 0 (by decide) (hts _ (inA q331)) (fun _ h9 => h9) rfl dX2_skipBlanks_28 ?_
          refine lv_aload_n hx hb dX2_skipBlanks_31 rfl (lv_at hl 2 rfl) ?_
          refine va_get (D := D) (ci := 2) (v := .int o_this_L2.2.1) (C := RX2) (T := TX2) (N := 7) hx hb hts layX2 hown hK hP 0 rfl rfl 6 (by decide) (hts _ (inA q341)) (fun _ h9 => h9) rfl dX2_skipBlanks_32 ?_
          refine lv_iconst (v := 1) hx hb dX2_skipBlanks_35 (by decide) ?_
          refine lv_iadd hx hb dX2_skipBlanks_36 ?_
          obtain ⟨r1132, hcr1132, hM⟩ := ob_use hM
          refine cl_V (As := [.int (o_this_L2.2.1 + 1)]) (rest := []) (w_Tokens_this_text cI ad o_this_L2 o_text) (.int r1132 :: []) ⟨hx, hb, hml, hown, hts⟩ (c_Bytes_get l D cI sd (ad 1) (ad 2) 8192 o_text (o_this_L2.2.1 + 1) r1132 hcr1132) (cwV2 hts q530 mvX0_get rfl rfl ⟨(Nat.le_of_ble_eq_true rfl), (Nat.le_of_ble_eq_true rfl)⟩) hK hE hA hP hD hS 4 (T := TX0) (N := 2) (ci := 0) rfl rfl [4, 5] rfl (by decide) rfl rfl rfl rfl rfl rfl hl.1 (Nat.le_of_ble_eq_true rfl) dX2_skipBlanks_37 ⟨Nat.zero_le _, Nat.zero_le _⟩ (fun H locs hP hD hS => ?_)
          refine lv_bipush (v := 42) hx hb dX2_skipBlanks_40 (by decide) ?_
          refine lv_icmp_ne (tgt := 71) hx hb dX2_skipBlanks_42 (by decide) (fun c1133 => ?_) (fun c1133 => ?_)
          · replace hM := if_f c1133 hM
            refine lv_iload_n hx hb dX2_skipBlanks_71 rfl (lv_at hl 0 rfl) ?_
            refine lv_bipush (v := 9) hx hb dX2_skipBlanks_72 (by decide) ?_
            refine lv_icmp_eq (tgt := 95) hx hb dX2_skipBlanks_74 (by decide) (fun c1134 => ?_) (fun c1134 => ?_)
            · replace hM := if_t c1134 hM
              refine lv_aload_n hx hb dX2_skipBlanks_95 rfl (lv_at hl 2 rfl) ?_
              refine lv_dup hx hb dX2_skipBlanks_96 rfl ?_
              refine va_get (D := D) (ci := 2) (v := .int o_this_L2.2.1) (C := RX2) (T := TX2) (N := 7) hx hb hts layX2 hown hK hP 0 rfl rfl 6 (by decide) (hts _ (inA q341)) (fun _ h9 => h9) rfl dX2_skipBlanks_97 ?_
              refine lv_iconst (v := 1) hx hb dX2_skipBlanks_100 (by decide) ?_
              refine lv_iadd hx hb dX2_skipBlanks_101 ?_
              refine va_put (D := D) (ci := 2) (v := .int (o_this_L2.2.1 + 1)) (ty := .int) (C := RX2) (T := TX2) (N := 7) hx hb hts layX2 tyX2 tyX2_ok nmX2 hown hK hP hD hS 0 rfl rfl 6 (by decide) (hts _ (inA q341)) (fun _ h9 => h9) rfl (by decide +kernel) rfl rfl (Nat.le_of_ble_eq_true rfl) dX2_skipBlanks_102 (fun H locs hP hD hS => ?_)
              have hP : va_P D vwCl (w_Tokens_this_text cI ad (o_this_L2.1, o_this_L2.2.1 + 1, o_this_L2.2.2) o_text) H := hP
              have hD : va_D A (w_Tokens_this_text cI ad (o_this_L2.1, o_this_L2.2.1 + 1, o_this_L2.2.2) o_text) := hD
              refine lv_goto (tgt := 110) hx hb dX2_skipBlanks_105 (by decide) ?_
              obtain ⟨x1135, ex1135⟩ : ∃ y : Int32, y = v1_L2 + 1 := ⟨_, rfl⟩
              replace hM := nm_use ex1135 hM
              refine lv_iinc (v := x1135) (lv' := [(1, .int x1135), (2, .int r1122), (0, .ref (ad 10))]) hx hb dX2_skipBlanks_110 hl (k := 1) rfl (by rw [ex1135]; rfl) (by decide) rfl (fun ls hl => ?_)
              refine lv_goto (tgt := 2) hx hb dX2_skipBlanks_113 (by decide) ?_
              exact ih_L2 x1135 (o_this_L2.1, o_this_L2.2.1 + 1, o_this_L2.2.2) _ _ _ hM hP hD hS (lv_sub hl [0, 2] rfl)
            · replace hM := if_f c1134 hM
              refine lv_iload_n hx hb dX2_skipBlanks_77 rfl (lv_at hl 0 rfl) ?_
              refine lv_bipush (v := 10) hx hb dX2_skipBlanks_78 (by decide) ?_
              refine lv_icmp_eq (tgt := 95) hx hb dX2_skipBlanks_80 (by decide) (fun c1136 => ?_) (fun c1136 => ?_)
              · replace hM := if_t c1136 hM
                refine lv_aload_n hx hb dX2_skipBlanks_95 rfl (lv_at hl 2 rfl) ?_
                refine lv_dup hx hb dX2_skipBlanks_96 rfl ?_
                refine va_get (D := D) (ci := 2) (v := .int o_this_L2.2.1) (C := RX2) (T := TX2) (N := 7) hx hb hts layX2 hown hK hP 0 rfl rfl 6 (by decide) (hts _ (inA q341)) (fun _ h9 => h9) rfl dX2_skipBlanks_97 ?_
                refine lv_iconst (v := 1) hx hb dX2_skipBlanks_100 (by decide) ?_
                refine lv_iadd hx hb dX2_skipBlanks_101 ?_
                refine va_put (D := D) (ci := 2) (v := .int (o_this_L2.2.1 + 1)) (ty := .int) (C := RX2) (T := TX2) (N := 7) hx hb hts layX2 tyX2 tyX2_ok nmX2 hown hK hP hD hS 0 rfl rfl 6 (by decide) (hts _ (inA q341)) (fun _ h9 => h9) rfl (by decide +kernel) rfl rfl (Nat.le_of_ble_eq_true rfl) dX2_skipBlanks_102 (fun H locs hP hD hS => ?_)
                have hP : va_P D vwCl (w_Tokens_this_text cI ad (o_this_L2.1, o_this_L2.2.1 + 1, o_this_L2.2.2) o_text) H := hP
                have hD : va_D A (w_Tokens_this_text cI ad (o_this_L2.1, o_this_L2.2.1 + 1, o_this_L2.2.2) o_text) := hD
                refine lv_goto (tgt := 110) hx hb dX2_skipBlanks_105 (by decide) ?_
                obtain ⟨x1137, ex1137⟩ : ∃ y : Int32, y = v1_L2 + 1 := ⟨_, rfl⟩
                replace hM := nm_use ex1137 hM
                refine lv_iinc (v := x1137) (lv' := [(1, .int x1137), (2, .int r1122), (0, .ref (ad 10))]) hx hb dX2_skipBlanks_110 hl (k := 1) rfl (by rw [ex1137]; rfl) (by decide) rfl (fun ls hl => ?_)
                refine lv_goto (tgt := 2) hx hb dX2_skipBlanks_113 (by decide) ?_
                exact ih_L2 x1137 (o_this_L2.1, o_this_L2.2.1 + 1, o_this_L2.2.2) _ _ _ hM hP hD hS (lv_sub hl [0, 2] rfl)
              · replace hM := if_f c1136 hM
                refine lv_iload_n hx hb dX2_skipBlanks_83 rfl (lv_at hl 0 rfl) ?_
                refine lv_bipush (v := 13) hx hb dX2_skipBlanks_84 (by decide) ?_
                refine lv_icmp_eq (tgt := 95) hx hb dX2_skipBlanks_86 (by decide) (fun c1138 => ?_) (fun c1138 => ?_)
                · replace hM := if_t c1138 hM
                  refine lv_aload_n hx hb dX2_skipBlanks_95 rfl (lv_at hl 2 rfl) ?_
                  refine lv_dup hx hb dX2_skipBlanks_96 rfl ?_
                  refine va_get (D := D) (ci := 2) (v := .int o_this_L2.2.1) (C := RX2) (T := TX2) (N := 7) hx hb hts layX2 hown hK hP 0 rfl rfl 6 (by decide) (hts _ (inA q341)) (fun _ h9 => h9) rfl dX2_skipBlanks_97 ?_
                  refine lv_iconst (v := 1) hx hb dX2_skipBlanks_100 (by decide) ?_
                  refine lv_iadd hx hb dX2_skipBlanks_101 ?_
                  refine va_put (D := D) (ci := 2) (v := .int (o_this_L2.2.1 + 1)) (ty := .int) (C := RX2) (T := TX2) (N := 7) hx hb hts layX2 tyX2 tyX2_ok nmX2 hown hK hP hD hS 0 rfl rfl 6 (by decide) (hts _ (inA q341)) (fun _ h9 => h9) rfl (by decide +kernel) rfl rfl (Nat.le_of_ble_eq_true rfl) dX2_skipBlanks_102 (fun H locs hP hD hS => ?_)
                  have hP : va_P D vwCl (w_Tokens_this_text cI ad (o_this_L2.1, o_this_L2.2.1 + 1, o_this_L2.2.2) o_text) H := hP
                  have hD : va_D A (w_Tokens_this_text cI ad (o_this_L2.1, o_this_L2.2.1 + 1, o_this_L2.2.2) o_text) := hD
                  refine lv_goto (tgt := 110) hx hb dX2_skipBlanks_105 (by decide) ?_
                  obtain ⟨x1139, ex1139⟩ : ∃ y : Int32, y = v1_L2 + 1 := ⟨_, rfl⟩
                  replace hM := nm_use ex1139 hM
                  refine lv_iinc (v := x1139) (lv' := [(1, .int x1139), (2, .int r1122), (0, .ref (ad 10))]) hx hb dX2_skipBlanks_110 hl (k := 1) rfl (by rw [ex1139]; rfl) (by decide) rfl (fun ls hl => ?_)
                  refine lv_goto (tgt := 2) hx hb dX2_skipBlanks_113 (by decide) ?_
                  exact ih_L2 x1139 (o_this_L2.1, o_this_L2.2.1 + 1, o_this_L2.2.2) _ _ _ hM hP hD hS (lv_sub hl [0, 2] rfl)
                · replace hM := if_f c1138 hM
                  refine lv_iload_n hx hb dX2_skipBlanks_89 rfl (lv_at hl 0 rfl) ?_
                  refine lv_bipush (v := 32) hx hb dX2_skipBlanks_90 (by decide) ?_
                  refine lv_icmp_ne (tgt := 108) hx hb dX2_skipBlanks_92 (by decide) (fun c1140 => ?_) (fun c1140 => ?_)
                  · replace hM := if_f c1140 hM
                    refine lv_iconst (v := 1) hx hb dX2_skipBlanks_108 (by decide) ?_
                    cases hM
                    exact rt_z hx hb hr hlk (by decide) hP hD hS rfl dX2_skipBlanks_109
                  · replace hM := if_t c1140 hM
                    refine lv_aload_n hx hb dX2_skipBlanks_95 rfl (lv_at hl 2 rfl) ?_
                    refine lv_dup hx hb dX2_skipBlanks_96 rfl ?_
                    refine va_get (D := D) (ci := 2) (v := .int o_this_L2.2.1) (C := RX2) (T := TX2) (N := 7) hx hb hts layX2 hown hK hP 0 rfl rfl 6 (by decide) (hts _ (inA q341)) (fun _ h9 => h9) rfl dX2_skipBlanks_97 ?_
                    refine lv_iconst (v := 1) hx hb dX2_skipBlanks_100 (by decide) ?_
                    refine lv_iadd hx hb dX2_skipBlanks_101 ?_
                    refine va_put (D := D) (ci := 2) (v := .int (o_this_L2.2.1 + 1)) (ty := .int) (C := RX2) (T := TX2) (N := 7) hx hb hts layX2 tyX2 tyX2_ok nmX2 hown hK hP hD hS 0 rfl rfl 6 (by decide) (hts _ (inA q341)) (fun _ h9 => h9) rfl (by decide +kernel) rfl rfl (Nat.le_of_ble_eq_true rfl) dX2_skipBlanks_102 (fun H locs hP hD hS => ?_)
                    have hP : va_P D vwCl (w_Tokens_this_text cI ad (o_this_L2.1, o_this_L2.2.1 + 1, o_this_L2.2.2) o_text) H := hP
                    have hD : va_D A (w_Tokens_this_text cI ad (o_this_L2.1, o_this_L2.2.1 + 1, o_this_L2.2.2) o_text) := hD
                    refine lv_goto (tgt := 110) hx hb dX2_skipBlanks_105 (by decide) ?_
                    obtain ⟨x1141, ex1141⟩ : ∃ y : Int32, y = v1_L2 + 1 := ⟨_, rfl⟩
                    replace hM := nm_use ex1141 hM
                    refine lv_iinc (v := x1141) (lv' := [(1, .int x1141), (2, .int r1122), (0, .ref (ad 10))]) hx hb dX2_skipBlanks_110 hl (k := 1) rfl (by rw [ex1141]; rfl) (by decide) rfl (fun ls hl => ?_)
                    refine lv_goto (tgt := 2) hx hb dX2_skipBlanks_113 (by decide) ?_
                    exact ih_L2 x1141 (o_this_L2.1, o_this_L2.2.1 + 1, o_this_L2.2.2) _ _ _ hM hP hD hS (lv_sub hl [0, 2] rfl)
          · replace hM := if_t c1133 hM
            refine lv_aload_n hx hb dX2_skipBlanks_45 rfl (lv_at hl 2 rfl) ?_
            refine lv_aload_n hx hb dX2_skipBlanks_46 rfl (lv_at hl 2 rfl) ?_
            refine va_get (D := D) (ci := 2) (v := .int o_this_L2.2.1) (C := RX2) (T := TX2) (N := 7) hx hb hts layX2 hown hK hP 0 rfl rfl 6 (by decide) (hts _ (inA q341)) (fun _ h9 => h9) rfl dX2_skipBlanks_47 ?_
            refine lv_iconst (v := 2) hx hb dX2_skipBlanks_50 (by decide) ?_
            refine lv_iadd hx hb dX2_skipBlanks_51 ?_
            obtain ⟨r1142, hcr1142, hM⟩ := ob_use hM
            refine cl_V (As := [.int (o_this_L2.2.1 + 2)]) (rest := []) (w_Tokens_this_text cI ad o_this_L2 o_text) (.int r1142 :: []) ⟨hx, hb, hml, hown, hts⟩ (c_Tokens_endOfComment l D cI sd ad o_this_L2 o_text (o_this_L2.2.1 + 2) r1142 hcr1142) (cwV2 hts q531 mvX2_endOfComment rfl rfl ⟨(Nat.le_of_ble_eq_true rfl), (Nat.le_of_ble_eq_true rfl)⟩) hK hE hA hP hD hS 0 (T := TX2) (N := 7) (ci := 2) rfl rfl [0, 1, 2, 3, 4, 5] rfl (by decide) rfl rfl rfl rfl rfl rfl hl.1 (Nat.le_of_ble_eq_true rfl) dX2_skipBlanks_52 ⟨Nat.zero_le _, Nat.zero_le _⟩ (fun H locs hP hD hS => ?_)
            refine lv_istore_n (lv' := [(3, .int r1142), (2, .int r1122), (1, .int v1_L2), (0, .ref (ad 10))]) hx hb dX2_skipBlanks_55 rfl hl (by decide) rfl (fun ls hl => ?_)
            refine lv_iload_n hx hb dX2_skipBlanks_56 rfl (lv_at hl 0 rfl) ?_
            refine lv_iconst (v := (-1)) hx hb dX2_skipBlanks_57 (by decide) ?_
            refine lv_icmp_ne (tgt := 63) hx hb dX2_skipBlanks_58 (by decide) (fun c1143 => ?_) (fun c1143 => ?_)
            · replace hM := if_f c1143 hM
              refine lv_aload_n hx hb dX2_skipBlanks_63 rfl (lv_at hl 3 rfl) ?_
              refine lv_iload_n hx hb dX2_skipBlanks_64 rfl (lv_at hl 0 rfl) ?_
              refine va_put (D := D) (ci := 2) (v := .int r1142) (ty := .int) (C := RX2) (T := TX2) (N := 7) hx hb hts layX2 tyX2 tyX2_ok nmX2 hown hK hP hD hS 0 rfl rfl 6 (by decide) (hts _ (inA q341)) (fun _ h9 => h9) rfl (by decide +kernel) rfl rfl (Nat.le_of_ble_eq_true rfl) dX2_skipBlanks_65 (fun H locs hP hD hS => ?_)
              have hP : va_P D vwCl (w_Tokens_this_text cI ad (o_this_L2.1, r1142, o_this_L2.2.2) o_text) H := hP
              have hD : va_D A (w_Tokens_this_text cI ad (o_this_L2.1, r1142, o_this_L2.2.2) o_text) := hD
              refine lv_goto (tgt := 110) hx hb dX2_skipBlanks_68 (by decide) ?_
              obtain ⟨x1144, ex1144⟩ : ∃ y : Int32, y = v1_L2 + 1 := ⟨_, rfl⟩
              replace hM := nm_use ex1144 hM
              refine lv_iinc (v := x1144) (lv' := [(1, .int x1144), (3, .int r1142), (2, .int r1122), (0, .ref (ad 10))]) hx hb dX2_skipBlanks_110 hl (k := 2) rfl (by rw [ex1144]; rfl) (by decide) rfl (fun ls hl => ?_)
              refine lv_goto (tgt := 2) hx hb dX2_skipBlanks_113 (by decide) ?_
              exact ih_L2 x1144 (o_this_L2.1, r1142, o_this_L2.2.2) _ _ _ hM hP hD hS (lv_sub hl [0, 3] rfl)
            · replace hM := if_t c1143 hM
              refine lv_iconst (v := 0) hx hb dX2_skipBlanks_61 (by decide) ?_
              cases hM
              exact rt_z hx hb hr hlk (by decide) hP hD hS rfl dX2_skipBlanks_62
  exact lp_L2 FU 0 o_this _ _ _ hM hP hD hS (lv_sub hl [0, 1] rfl)

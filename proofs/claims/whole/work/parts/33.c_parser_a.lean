set_option maxHeartbeats 4000000 in
set_option maxRecDepth 100000 in
theorem c_Parser_kindOfBlock (l : Launch) (D : va_G) (cI : ClassId) (sd : Nat → Nat) (ad : Nat → Nat) (a1 : Int32) (res : Int32) (hM : f_Parser_kindOfBlock a1 = some res) : Ctr l D cI sd yX4_kindOfBlock (wsM yX4_kindOfBlock cX4_kindOfBlock 1 (Option.some Jvm.ClassFile.FieldType.int)) { frames := 0, cells := 0, slots := 0, locals := 0 } [.int a1] (([] : va_W)) (([] : va_W)) (some (.int res)) := by
  refine Ctr.of (cc := cX4_kindOfBlock) (maxL := 1) (own := RX4) (by decide +kernel) rfl rfl (Nat.le_of_ble_eq_true rfl) ?_
  intro p e s m below meth c A ls hx hb hr hml hown hts hlk hK hE hA hP hD hS hl
  have hl : lv_has ls 1 [(0, .int a1)] := hl
  unfold f_Parser_kindOfBlock at hM
  refine lv_iload_n hx hb dX4_kindOfBlock_0 rfl (lv_at hl 0 rfl) ?_
  by_cases c1 : a1 = 256
  · replace hM := if_t c1 hM
    refine lv_lookup (off := 27) (tgt := 28) hx hb dX4_kindOfBlock_1 (by decide) (by exact sw_hit c1 (by decide)) (by decide) ?_
    refine lv_iconst (v := 1) hx hb dX4_kindOfBlock_28 (by decide) ?_
    cases hM
    exact rt_i hx hb hr hlk hP hD hS rfl dX4_kindOfBlock_29
  replace hM := if_f c1 hM
  by_cases c2 : a1 = 258
  · replace hM := if_t c2 hM
    refine lv_lookup (off := 29) (tgt := 30) hx hb dX4_kindOfBlock_1 (by decide) (by rw [lv_osw c1 (by decide)]; exact sw_hit c2 (by decide)) (by decide) ?_
    refine lv_iconst (v := 2) hx hb dX4_kindOfBlock_30 (by decide) ?_
    cases hM
    exact rt_i hx hb hr hlk hP hD hS rfl dX4_kindOfBlock_31
  replace hM := if_f c2 hM
  refine lv_lookup (off := 31) (tgt := 32) hx hb dX4_kindOfBlock_1 (by decide) (by rw [lv_osw c1 (by decide)]; rw [lv_osw c2 (by decide)]; rfl) (by decide) ?_
  refine lv_iconst (v := 3) hx hb dX4_kindOfBlock_32 (by decide) ?_
  cases hM
  exact rt_i hx hb hr hlk hP hD hS rfl dX4_kindOfBlock_33

set_option maxHeartbeats 4000000 in
set_option maxRecDepth 100000 in
theorem c_Parser_take (l : Launch) (D : va_G) (cI : ClassId) (sd : Nat → Nat) (ad : Nat → Nat) (o_this : S_Parser) (o_tokens : S_Tokens) (a1 : Int32) (res : S_Parser) (hM : f_Parser_take o_this o_tokens a1 = some res) : Ctr l D cI sd yX4_take (wsM yX4_take cX4_take 3 (Option.none : Option Jvm.ClassFile.FieldType)) { frames := 0, cells := 0, slots := 0, locals := 0 } [.ref (ad 22), .int a1] (w_Parser_this_tokens cI ad o_this o_tokens) (w_Parser_this_tokens cI ad res o_tokens) none := by
  refine Ctr.of (cc := cX4_take) (maxL := 3) (own := RX4) (by decide +kernel) rfl rfl (Nat.le_of_ble_eq_true rfl) ?_
  intro p e s m below meth c A ls hx hb hr hml hown hts hlk hK hE hA hP hD hS hl
  have hl : lv_has ls 3 [(0, .ref (ad 22)), (1, .int a1)] := hl
  unfold f_Parser_take at hM
  refine lv_aload_n hx hb dX4_take_0 rfl (lv_at hl 0 rfl) ?_
  refine va_get (D := D) (ci := 4) (v := .int o_this.2.1) (C := RX4) (T := TX4) (N := 12) hx hb hts layX4 hown hK hP 0 rfl rfl 3 (by decide) (hts _ (inA q400)) (fun _ h9 => h9) rfl dX4_take_1 ?_
  refine lv_iload_n hx hb dX4_take_4 rfl (lv_at hl 1 rfl) ?_
  refine lv_icmp_ne (tgt := 17) hx hb dX4_take_5 (by decide) (fun c1 => ?_) (fun c1 => ?_)
  · replace hM := if_f c1 hM
    refine lv_aload_n hx hb dX4_take_17 rfl (lv_at hl 0 rfl) ?_
    refine lv_bipush (v := 6) hx hb dX4_take_18 (by decide) ?_
    refine va_put (D := D) (ci := 4) (v := .int 6) (ty := .int) (C := RX4) (T := TX4) (N := 12) hx hb hts layX4 tyX4 tyX4_ok nmX4 hown hK hP hD hS 0 rfl rfl 3 (by decide) (hts _ (inA q400)) (fun _ h9 => h9) rfl (by decide +kernel) rfl rfl (Nat.le_of_ble_eq_true rfl) dX4_take_20 (fun H locs hP hD hS => ?_)
    have hP : va_P D vwCl (w_Parser_this_tokens cI ad (o_this.1, 6, o_this.2.2) o_tokens) H := hP
    have hD : va_D A (w_Parser_this_tokens cI ad (o_this.1, 6, o_this.2.2) o_tokens) := hD
    cases hM
    exact rt_v hx hb hr hlk hP hD hS rfl dX4_take_23
  · replace hM := if_t c1 hM
    refine lv_aload_n hx hb dX4_take_8 rfl (lv_at hl 0 rfl) ?_
    refine va_get (D := D) (ci := 4) (v := .int o_this.2.1) (C := RX4) (T := TX4) (N := 12) hx hb hts layX4 hown hK hP 0 rfl rfl 3 (by decide) (hts _ (inA q400)) (fun _ h9 => h9) rfl dX4_take_9 ?_
    refine lv_bipush (v := 6) hx hb dX4_take_12 (by decide) ?_
    refine lv_icmp_ne (tgt := 24) hx hb dX4_take_14 (by decide) (fun c2 => ?_) (fun c2 => ?_)
    · replace hM := if_f c2 hM
      refine lv_aload_n hx hb dX4_take_24 rfl (lv_at hl 0 rfl) ?_
      refine lv_aload_n hx hb dX4_take_25 rfl (lv_at hl 0 rfl) ?_
      refine va_get (D := D) (ci := 4) (v := .int o_this.2.2.1) (C := RX4) (T := TX4) (N := 12) hx hb hts layX4 hown hK hP 0 rfl rfl 4 (by decide) (hts _ (inA q401)) (fun _ h9 => h9) rfl dX4_take_26 ?_
      refine va_put (D := D) (ci := 4) (v := .int o_this.2.2.1) (ty := .int) (C := RX4) (T := TX4) (N := 12) hx hb hts layX4 tyX4 tyX4_ok nmX4 hown hK hP hD hS 0 rfl rfl 6 (by decide) (hts _ (inA q403)) (fun _ h9 => h9) rfl (by decide +kernel) rfl rfl (Nat.le_of_ble_eq_true rfl) dX4_take_29 (fun H locs hP hD hS => ?_)
      have hP : va_P D vwCl (w_Parser_this_tokens cI ad (o_this.1, o_this.2.1, o_this.2.2.1, o_this.2.2.2.1, o_this.2.2.1, o_this.2.2.2.2.2) o_tokens) H := hP
      have hD : va_D A (w_Parser_this_tokens cI ad (o_this.1, o_this.2.1, o_this.2.2.1, o_this.2.2.2.1, o_this.2.2.1, o_this.2.2.2.2.2) o_tokens) := hD
      refine lv_aload_n hx hb dX4_take_32 rfl (lv_at hl 0 rfl) ?_
      refine lv_dup hx hb dX4_take_33 rfl ?_
      refine va_get (D := D) (ci := 4) (v := .int o_this.1) (C := RX4) (T := TX4) (N := 12) hx hb hts layX4 hown hK hP 0 rfl rfl 2 (by decide) (hts _ (inA q399)) (fun _ h9 => h9) rfl dX4_take_34 ?_
      refine lv_iconst (v := 1) hx hb dX4_take_37 (by decide) ?_
      refine lv_iadd hx hb dX4_take_38 ?_
      refine va_put (D := D) (ci := 4) (v := .int (o_this.1 + 1)) (ty := .int) (C := RX4) (T := TX4) (N := 12) hx hb hts layX4 tyX4 tyX4_ok nmX4 hown hK hP hD hS 0 rfl rfl 2 (by decide) (hts _ (inA q399)) (fun _ h9 => h9) rfl (by decide +kernel) rfl rfl (Nat.le_of_ble_eq_true rfl) dX4_take_39 (fun H locs hP hD hS => ?_)
      have hP : va_P D vwCl (w_Parser_this_tokens cI ad (o_this.1 + 1, o_this.2.1, o_this.2.2.1, o_this.2.2.2.1, o_this.2.2.1, o_this.2.2.2.2.2) o_tokens) H := hP
      have hD : va_D A (w_Parser_this_tokens cI ad (o_this.1 + 1, o_this.2.1, o_this.2.2.1, o_this.2.2.2.1, o_this.2.2.1, o_this.2.2.2.2.2) o_tokens) := hD
      refine lv_aload_n hx hb dX4_take_42 rfl (lv_at hl 0 rfl) ?_
      refine va_get (D := D) (ci := 4) (v := .int (o_this.1 + 1)) (C := RX4) (T := TX4) (N := 12) hx hb hts layX4 hown hK hP 0 rfl rfl 2 (by decide) (hts _ (inA q399)) (fun _ h9 => h9) rfl dX4_take_43 ?_
      refine lv_if_lt (tgt := 77) hx hb dX4_take_46 (by decide) (fun c3 => ?_) (fun c3 => ?_)
      · replace hM := if_t c3 hM
        refine lv_iconst (v := 0) hx hb dX4_take_77 (by decide) ?_
        refine lv_istore_n (lv' := [(2, .int 0), (0, .ref (ad 22)), (1, .int a1)]) hx hb dX4_take_78 rfl hl (by decide) rfl (fun ls hl => ?_)
        refine lv_aload_n hx hb dX4_take_79 rfl (lv_at hl 1 rfl) ?_
        refine lv_iload_n hx hb dX4_take_80 rfl (lv_at hl 0 rfl) ?_
        refine lv_if_eq (tgt := 99) hx hb dX4_take_81 (by decide) (fun c4 => ?_) (fun c4 => False.elim (by revert c4; decide))
        refine lv_bipush (v := 6) hx hb dX4_take_99 (by decide) ?_
        refine va_put (D := D) (ci := 4) (v := .int 6) (ty := .int) (C := RX4) (T := TX4) (N := 12) hx hb hts layX4 tyX4 tyX4_ok nmX4 hown hK hP hD hS 0 rfl rfl 3 (by decide) (hts _ (inA q400)) (fun _ h9 => h9) rfl (by decide +kernel) rfl rfl (Nat.le_of_ble_eq_true rfl) dX4_take_101 (fun H locs hP hD hS => ?_)
        have hP : va_P D vwCl (w_Parser_this_tokens cI ad (o_this.1 + 1, 6, o_this.2.2.1, o_this.2.2.2.1, o_this.2.2.1, o_this.2.2.2.2.2) o_tokens) H := hP
        have hD : va_D A (w_Parser_this_tokens cI ad (o_this.1 + 1, 6, o_this.2.2.1, o_this.2.2.2.1, o_this.2.2.1, o_this.2.2.2.2.2) o_tokens) := hD
        refine lv_aload_n hx hb dX4_take_104 rfl (lv_at hl 1 rfl) ?_
        refine lv_iload_n hx hb dX4_take_105 rfl (lv_at hl 0 rfl) ?_
        refine lv_if_eq (tgt := 124) hx hb dX4_take_106 (by decide) (fun c5 => ?_) (fun c5 => False.elim (by revert c5; decide))
        refine lv_iconst (v := (-1)) hx hb dX4_take_124 (by decide) ?_
        refine va_put (D := D) (ci := 4) (v := .int (-1)) (ty := .int) (C := RX4) (T := TX4) (N := 12) hx hb hts layX4 tyX4 tyX4_ok nmX4 hown hK hP hD hS 0 rfl rfl 4 (by decide) (hts _ (inA q401)) (fun _ h9 => h9) rfl (by decide +kernel) rfl rfl (Nat.le_of_ble_eq_true rfl) dX4_take_125 (fun H locs hP hD hS => ?_)
        have hP : va_P D vwCl (w_Parser_this_tokens cI ad (o_this.1 + 1, 6, (-1), o_this.2.2.2.1, o_this.2.2.1, o_this.2.2.2.2.2) o_tokens) H := hP
        have hD : va_D A (w_Parser_this_tokens cI ad (o_this.1 + 1, 6, (-1), o_this.2.2.2.1, o_this.2.2.1, o_this.2.2.2.2.2) o_tokens) := hD
        refine lv_aload_n hx hb dX4_take_128 rfl (lv_at hl 1 rfl) ?_
        refine lv_iload_n hx hb dX4_take_129 rfl (lv_at hl 0 rfl) ?_
        refine lv_if_eq (tgt := 148) hx hb dX4_take_130 (by decide) (fun c6 => ?_) (fun c6 => False.elim (by revert c6; decide))
        refine lv_iconst (v := 0) hx hb dX4_take_148 (by decide) ?_
        refine va_put (D := D) (ci := 4) (v := .int 0) (ty := .int) (C := RX4) (T := TX4) (N := 12) hx hb hts layX4 tyX4 tyX4_ok nmX4 hown hK hP hD hS 0 rfl rfl 5 (by decide) (hts _ (inA q402)) (fun _ h9 => h9) rfl (by decide +kernel) rfl rfl (Nat.le_of_ble_eq_true rfl) dX4_take_149 (fun H locs hP hD hS => ?_)
        have hP : va_P D vwCl (w_Parser_this_tokens cI ad (o_this.1 + 1, 6, (-1), 0, o_this.2.2.1, o_this.2.2.2.2.2) o_tokens) H := hP
        have hD : va_D A (w_Parser_this_tokens cI ad (o_this.1 + 1, 6, (-1), 0, o_this.2.2.1, o_this.2.2.2.2.2) o_tokens) := hD
        cases hM
        exact rt_v hx hb hr hlk hP hD hS rfl dX4_take_152
      · replace hM := if_f c3 hM
        refine lv_aload_n hx hb dX4_take_49 rfl (lv_at hl 0 rfl) ?_
        refine va_get (D := D) (ci := 4) (v := .int (o_this.1 + 1)) (C := RX4) (T := TX4) (N := 12) hx hb hts layX4 hown hK hP 0 rfl rfl 2 (by decide) (hts _ (inA q399)) (fun _ h9 => h9) rfl dX4_take_50 ?_
        refine lv_aload_n hx hb dX4_take_53 rfl (lv_at hl 0 rfl) ?_
        refine va_get (D := D) (ci := 4) (v := .ref (ad 10)) (C := RX4) (T := TX4) (N := 12) hx hb hts layX4 hown hK hP 0 rfl rfl 0 (by decide) (hts _ (inA q397)) (fun _ h9 => h9) rfl dX4_take_54 ?_
        refine va_getN (D := D) (ci := 2) (v := .int o_tokens.1) (C := RX2) (T := TX2) (N := 7) hx hb hts layX2 hown hK hP 1 rfl rfl 5 (by decide) (nfE7 hE) (fun _ h9 => h9) rfl dX4_take_57 ?_
        refine lv_icmp_ge (tgt := 77) hx hb dX4_take_60 (by decide) (fun c7 => ?_) (fun c7 => ?_)
        · replace hM := if_t c7 hM
          refine lv_iconst (v := 0) hx hb dX4_take_77 (by decide) ?_
          refine lv_istore_n (lv' := [(2, .int 0), (0, .ref (ad 22)), (1, .int a1)]) hx hb dX4_take_78 rfl hl (by decide) rfl (fun ls hl => ?_)
          refine lv_aload_n hx hb dX4_take_79 rfl (lv_at hl 1 rfl) ?_
          refine lv_iload_n hx hb dX4_take_80 rfl (lv_at hl 0 rfl) ?_
          refine lv_if_eq (tgt := 99) hx hb dX4_take_81 (by decide) (fun c8 => ?_) (fun c8 => False.elim (by revert c8; decide))
          refine lv_bipush (v := 6) hx hb dX4_take_99 (by decide) ?_
          refine va_put (D := D) (ci := 4) (v := .int 6) (ty := .int) (C := RX4) (T := TX4) (N := 12) hx hb hts layX4 tyX4 tyX4_ok nmX4 hown hK hP hD hS 0 rfl rfl 3 (by decide) (hts _ (inA q400)) (fun _ h9 => h9) rfl (by decide +kernel) rfl rfl (Nat.le_of_ble_eq_true rfl) dX4_take_101 (fun H locs hP hD hS => ?_)
          have hP : va_P D vwCl (w_Parser_this_tokens cI ad (o_this.1 + 1, 6, o_this.2.2.1, o_this.2.2.2.1, o_this.2.2.1, o_this.2.2.2.2.2) o_tokens) H := hP
          have hD : va_D A (w_Parser_this_tokens cI ad (o_this.1 + 1, 6, o_this.2.2.1, o_this.2.2.2.1, o_this.2.2.1, o_this.2.2.2.2.2) o_tokens) := hD
          refine lv_aload_n hx hb dX4_take_104 rfl (lv_at hl 1 rfl) ?_
          refine lv_iload_n hx hb dX4_take_105 rfl (lv_at hl 0 rfl) ?_
          refine lv_if_eq (tgt := 124) hx hb dX4_take_106 (by decide) (fun c9 => ?_) (fun c9 => False.elim (by revert c9; decide))
          refine lv_iconst (v := (-1)) hx hb dX4_take_124 (by decide) ?_
          refine va_put (D := D) (ci := 4) (v := .int (-1)) (ty := .int) (C := RX4) (T := TX4) (N := 12) hx hb hts layX4 tyX4 tyX4_ok nmX4 hown hK hP hD hS 0 rfl rfl 4 (by decide) (hts _ (inA q401)) (fun _ h9 => h9) rfl (by decide +kernel) rfl rfl (Nat.le_of_ble_eq_true rfl) dX4_take_125 (fun H locs hP hD hS => ?_)
          have hP : va_P D vwCl (w_Parser_this_tokens cI ad (o_this.1 + 1, 6, (-1), o_this.2.2.2.1, o_this.2.2.1, o_this.2.2.2.2.2) o_tokens) H := hP
          have hD : va_D A (w_Parser_this_tokens cI ad (o_this.1 + 1, 6, (-1), o_this.2.2.2.1, o_this.2.2.1, o_this.2.2.2.2.2) o_tokens) := hD
          refine lv_aload_n hx hb dX4_take_128 rfl (lv_at hl 1 rfl) ?_
          refine lv_iload_n hx hb dX4_take_129 rfl (lv_at hl 0 rfl) ?_
          refine lv_if_eq (tgt := 148) hx hb dX4_take_130 (by decide) (fun c10 => ?_) (fun c10 => False.elim (by revert c10; decide))
          refine lv_iconst (v := 0) hx hb dX4_take_148 (by decide) ?_
          refine va_put (D := D) (ci := 4) (v := .int 0) (ty := .int) (C := RX4) (T := TX4) (N := 12) hx hb hts layX4 tyX4 tyX4_ok nmX4 hown hK hP hD hS 0 rfl rfl 5 (by decide) (hts _ (inA q402)) (fun _ h9 => h9) rfl (by decide +kernel) rfl rfl (Nat.le_of_ble_eq_true rfl) dX4_take_149 (fun H locs hP hD hS => ?_)
          have hP : va_P D vwCl (w_Parser_this_tokens cI ad (o_this.1 + 1, 6, (-1), 0, o_this.2.2.1, o_this.2.2.2.2.2) o_tokens) H := hP
          have hD : va_D A (w_Parser_this_tokens cI ad (o_this.1 + 1, 6, (-1), 0, o_this.2.2.1, o_this.2.2.2.2.2) o_tokens) := hD
          cases hM
          exact rt_v hx hb hr hlk hP hD hS rfl dX4_take_152
        · replace hM := if_f c7 hM
          refine lv_aload_n hx hb dX4_take_63 rfl (lv_at hl 0 rfl) ?_
          refine va_get (D := D) (ci := 4) (v := .int (o_this.1 + 1)) (C := RX4) (T := TX4) (N := 12) hx hb hts layX4 hown hK hP 0 rfl rfl 2 (by decide) (hts _ (inA q399)) (fun _ h9 => h9) rfl dX4_take_64 ?_
          refine lv_sipush (v := 8193) hx hb dX4_take_67 (by decide) ?_
          refine lv_icmp_ge (tgt := 77) hx hb dX4_take_70 (by decide) (fun c11 => ?_) (fun c11 => ?_)
          · replace hM := if_t c11 hM
            refine lv_iconst (v := 0) hx hb dX4_take_77 (by decide) ?_
            refine lv_istore_n (lv' := [(2, .int 0), (0, .ref (ad 22)), (1, .int a1)]) hx hb dX4_take_78 rfl hl (by decide) rfl (fun ls hl => ?_)
            refine lv_aload_n hx hb dX4_take_79 rfl (lv_at hl 1 rfl) ?_
            refine lv_iload_n hx hb dX4_take_80 rfl (lv_at hl 0 rfl) ?_
            refine lv_if_eq (tgt := 99) hx hb dX4_take_81 (by decide) (fun c12 => ?_) (fun c12 => False.elim (by revert c12; decide))
            refine lv_bipush (v := 6) hx hb dX4_take_99 (by decide) ?_
            refine va_put (D := D) (ci := 4) (v := .int 6) (ty := .int) (C := RX4) (T := TX4) (N := 12) hx hb hts layX4 tyX4 tyX4_ok nmX4 hown hK hP hD hS 0 rfl rfl 3 (by decide) (hts _ (inA q400)) (fun _ h9 => h9) rfl (by decide +kernel) rfl rfl (Nat.le_of_ble_eq_true rfl) dX4_take_101 (fun H locs hP hD hS => ?_)
            have hP : va_P D vwCl (w_Parser_this_tokens cI ad (o_this.1 + 1, 6, o_this.2.2.1, o_this.2.2.2.1, o_this.2.2.1, o_this.2.2.2.2.2) o_tokens) H := hP
            have hD : va_D A (w_Parser_this_tokens cI ad (o_this.1 + 1, 6, o_this.2.2.1, o_this.2.2.2.1, o_this.2.2.1, o_this.2.2.2.2.2) o_tokens) := hD
            refine lv_aload_n hx hb dX4_take_104 rfl (lv_at hl 1 rfl) ?_
            refine lv_iload_n hx hb dX4_take_105 rfl (lv_at hl 0 rfl) ?_
            refine lv_if_eq (tgt := 124) hx hb dX4_take_106 (by decide) (fun c13 => ?_) (fun c13 => False.elim (by revert c13; decide))
            refine lv_iconst (v := (-1)) hx hb dX4_take_124 (by decide) ?_
            refine va_put (D := D) (ci := 4) (v := .int (-1)) (ty := .int) (C := RX4) (T := TX4) (N := 12) hx hb hts layX4 tyX4 tyX4_ok nmX4 hown hK hP hD hS 0 rfl rfl 4 (by decide) (hts _ (inA q401)) (fun _ h9 => h9) rfl (by decide +kernel) rfl rfl (Nat.le_of_ble_eq_true rfl) dX4_take_125 (fun H locs hP hD hS => ?_)
            have hP : va_P D vwCl (w_Parser_this_tokens cI ad (o_this.1 + 1, 6, (-1), o_this.2.2.2.1, o_this.2.2.1, o_this.2.2.2.2.2) o_tokens) H := hP
            have hD : va_D A (w_Parser_this_tokens cI ad (o_this.1 + 1, 6, (-1), o_this.2.2.2.1, o_this.2.2.1, o_this.2.2.2.2.2) o_tokens) := hD
            refine lv_aload_n hx hb dX4_take_128 rfl (lv_at hl 1 rfl) ?_
            refine lv_iload_n hx hb dX4_take_129 rfl (lv_at hl 0 rfl) ?_
            refine lv_if_eq (tgt := 148) hx hb dX4_take_130 (by decide) (fun c14 => ?_) (fun c14 => False.elim (by revert c14; decide))
            refine lv_iconst (v := 0) hx hb dX4_take_148 (by decide) ?_
            refine va_put (D := D) (ci := 4) (v := .int 0) (ty := .int) (C := RX4) (T := TX4) (N := 12) hx hb hts layX4 tyX4 tyX4_ok nmX4 hown hK hP hD hS 0 rfl rfl 5 (by decide) (hts _ (inA q402)) (fun _ h9 => h9) rfl (by decide +kernel) rfl rfl (Nat.le_of_ble_eq_true rfl) dX4_take_149 (fun H locs hP hD hS => ?_)
            have hP : va_P D vwCl (w_Parser_this_tokens cI ad (o_this.1 + 1, 6, (-1), 0, o_this.2.2.1, o_this.2.2.2.2.2) o_tokens) H := hP
            have hD : va_D A (w_Parser_this_tokens cI ad (o_this.1 + 1, 6, (-1), 0, o_this.2.2.1, o_this.2.2.2.2.2) o_tokens) := hD
            cases hM
            exact rt_v hx hb hr hlk hP hD hS rfl dX4_take_152
          · replace hM := if_f c11 hM
            refine lv_iconst (v := 1) hx hb dX4_take_73 (by decide) ?_
            refine lv_goto (tgt := 78) hx hb dX4_take_74 (by decide) ?_
            refine lv_istore_n (lv' := [(2, .int 1), (0, .ref (ad 22)), (1, .int a1)]) hx hb dX4_take_78 rfl hl (by decide) rfl (fun ls hl => ?_)
            refine lv_aload_n hx hb dX4_take_79 rfl (lv_at hl 1 rfl) ?_
            refine lv_iload_n hx hb dX4_take_80 rfl (lv_at hl 0 rfl) ?_
            refine lv_if_eq (tgt := 99) hx hb dX4_take_81 (by decide) (fun c15 => False.elim (by revert c15; decide)) (fun c15 => ?_)
            refine lv_aload_n hx hb dX4_take_84 rfl (lv_at hl 1 rfl) ?_
            refine va_get (D := D) (ci := 4) (v := .ref (ad 10)) (C := RX4) (T := TX4) (N := 12) hx hb hts layX4 hown hK hP 0 rfl rfl 0 (by decide) (hts _ (inA q397)) (fun _ h9 => h9) rfl dX4_take_85 ?_
            refine va_getN (D := D) (ci := 2) (v := .ref (ad 11)) (C := RX2) (T := TX2) (N := 7) hx hb hts layX2 hown hK hP 1 rfl rfl 2 (by decide) (nfE4 hE) (fun _ h9 => h9) rfl dX4_take_88 ?_
            refine lv_aload_n hx hb dX4_take_91 rfl (lv_at hl 1 rfl) ?_
            refine va_get (D := D) (ci := 4) (v := .int (o_this.1 + 1)) (C := RX4) (T := TX4) (N := 12) hx hb hts layX4 hown hK hP 0 rfl rfl 2 (by decide) (hts _ (inA q399)) (fun _ h9 => h9) rfl dX4_take_92 ?_
            obtain ⟨b16, hM⟩ := gd_use hM
            refine va_iald hx hb hK hP 2 0 rfl rfl b16 dX4_take_95 ?_
            refine lv_goto (tgt := 101) hx hb dX4_take_96 (by decide) ?_
            refine lv_topi (fun x17 ex17 => ?_)
            replace hM := nm_use ex17 hM
            refine va_put (D := D) (ci := 4) (v := .int x17) (ty := .int) (C := RX4) (T := TX4) (N := 12) hx hb hts layX4 tyX4 tyX4_ok nmX4 hown hK hP hD hS 0 rfl rfl 3 (by decide) (hts _ (inA q400)) (fun _ h9 => h9) rfl (by decide +kernel) rfl rfl (Nat.le_of_ble_eq_true rfl) dX4_take_101 (fun H locs hP hD hS => ?_)
            have hP : va_P D vwCl (w_Parser_this_tokens cI ad (o_this.1 + 1, x17, o_this.2.2.1, o_this.2.2.2.1, o_this.2.2.1, o_this.2.2.2.2.2) o_tokens) H := hP
            have hD : va_D A (w_Parser_this_tokens cI ad (o_this.1 + 1, x17, o_this.2.2.1, o_this.2.2.2.1, o_this.2.2.1, o_this.2.2.2.2.2) o_tokens) := hD
            refine lv_aload_n hx hb dX4_take_104 rfl (lv_at hl 1 rfl) ?_
            refine lv_iload_n hx hb dX4_take_105 rfl (lv_at hl 0 rfl) ?_
            refine lv_if_eq (tgt := 124) hx hb dX4_take_106 (by decide) (fun c18 => False.elim (by revert c18; decide)) (fun c18 => ?_)
            refine lv_aload_n hx hb dX4_take_109 rfl (lv_at hl 1 rfl) ?_
            refine va_get (D := D) (ci := 4) (v := .ref (ad 10)) (C := RX4) (T := TX4) (N := 12) hx hb hts layX4 hown hK hP 0 rfl rfl 0 (by decide) (hts _ (inA q397)) (fun _ h9 => h9) rfl dX4_take_110 ?_
            refine va_getN (D := D) (ci := 2) (v := .ref (ad 12)) (C := RX2) (T := TX2) (N := 7) hx hb hts layX2 hown hK hP 1 rfl rfl 3 (by decide) (nfE5 hE) (fun _ h9 => h9) rfl dX4_take_113 ?_
            refine lv_aload_n hx hb dX4_take_116 rfl (lv_at hl 1 rfl) ?_
            refine va_get (D := D) (ci := 4) (v := .int (o_this.1 + 1)) (C := RX4) (T := TX4) (N := 12) hx hb hts layX4 hown hK hP 0 rfl rfl 2 (by decide) (hts _ (inA q399)) (fun _ h9 => h9) rfl dX4_take_117 ?_
            obtain ⟨b19, hM⟩ := gd_use hM
            refine va_iald hx hb hK hP 3 0 rfl rfl b19 dX4_take_120 ?_
            refine lv_goto (tgt := 125) hx hb dX4_take_121 (by decide) ?_
            refine lv_topi (fun x20 ex20 => ?_)
            replace hM := nm_use ex20 hM
            refine va_put (D := D) (ci := 4) (v := .int x20) (ty := .int) (C := RX4) (T := TX4) (N := 12) hx hb hts layX4 tyX4 tyX4_ok nmX4 hown hK hP hD hS 0 rfl rfl 4 (by decide) (hts _ (inA q401)) (fun _ h9 => h9) rfl (by decide +kernel) rfl rfl (Nat.le_of_ble_eq_true rfl) dX4_take_125 (fun H locs hP hD hS => ?_)
            have hP : va_P D vwCl (w_Parser_this_tokens cI ad (o_this.1 + 1, x17, x20, o_this.2.2.2.1, o_this.2.2.1, o_this.2.2.2.2.2) o_tokens) H := hP
            have hD : va_D A (w_Parser_this_tokens cI ad (o_this.1 + 1, x17, x20, o_this.2.2.2.1, o_this.2.2.1, o_this.2.2.2.2.2) o_tokens) := hD
            refine lv_aload_n hx hb dX4_take_128 rfl (lv_at hl 1 rfl) ?_
            refine lv_iload_n hx hb dX4_take_129 rfl (lv_at hl 0 rfl) ?_
            refine lv_if_eq (tgt := 148) hx hb dX4_take_130 (by decide) (fun c21 => False.elim (by revert c21; decide)) (fun c21 => ?_)
            refine lv_aload_n hx hb dX4_take_133 rfl (lv_at hl 1 rfl) ?_
            refine va_get (D := D) (ci := 4) (v := .ref (ad 10)) (C := RX4) (T := TX4) (N := 12) hx hb hts layX4 hown hK hP 0 rfl rfl 0 (by decide) (hts _ (inA q397)) (fun _ h9 => h9) rfl dX4_take_134 ?_
            refine va_getN (D := D) (ci := 2) (v := .ref (ad 13)) (C := RX2) (T := TX2) (N := 7) hx hb hts layX2 hown hK hP 1 rfl rfl 4 (by decide) (nfE6 hE) (fun _ h9 => h9) rfl dX4_take_137 ?_
            refine lv_aload_n hx hb dX4_take_140 rfl (lv_at hl 1 rfl) ?_
            refine va_get (D := D) (ci := 4) (v := .int (o_this.1 + 1)) (C := RX4) (T := TX4) (N := 12) hx hb hts layX4 hown hK hP 0 rfl rfl 2 (by decide) (hts _ (inA q399)) (fun _ h9 => h9) rfl dX4_take_141 ?_
            obtain ⟨b22, hM⟩ := gd_use hM
            refine va_iald hx hb hK hP 4 0 rfl rfl b22 dX4_take_144 ?_
            refine lv_goto (tgt := 149) hx hb dX4_take_145 (by decide) ?_
            refine lv_topi (fun x23 ex23 => ?_)
            replace hM := nm_use ex23 hM
            refine va_put (D := D) (ci := 4) (v := .int x23) (ty := .int) (C := RX4) (T := TX4) (N := 12) hx hb hts layX4 tyX4 tyX4_ok nmX4 hown hK hP hD hS 0 rfl rfl 5 (by decide) (hts _ (inA q402)) (fun _ h9 => h9) rfl (by decide +kernel) rfl rfl (Nat.le_of_ble_eq_true rfl) dX4_take_149 (fun H locs hP hD hS => ?_)
            have hP : va_P D vwCl (w_Parser_this_tokens cI ad (o_this.1 + 1, x17, x20, x23, o_this.2.2.1, o_this.2.2.2.2.2) o_tokens) H := hP
            have hD : va_D A (w_Parser_this_tokens cI ad (o_this.1 + 1, x17, x20, x23, o_this.2.2.1, o_this.2.2.2.2.2) o_tokens) := hD
            cases hM
            exact rt_v hx hb hr hlk hP hD hS rfl dX4_take_152
    · replace hM := if_t c2 hM
      refine lv_aload_n hx hb dX4_take_17 rfl (lv_at hl 0 rfl) ?_
      refine lv_bipush (v := 6) hx hb dX4_take_18 (by decide) ?_
      refine va_put (D := D) (ci := 4) (v := .int 6) (ty := .int) (C := RX4) (T := TX4) (N := 12) hx hb hts layX4 tyX4 tyX4_ok nmX4 hown hK hP hD hS 0 rfl rfl 3 (by decide) (hts _ (inA q400)) (fun _ h9 => h9) rfl (by decide +kernel) rfl rfl (Nat.le_of_ble_eq_true rfl) dX4_take_20 (fun H locs hP hD hS => ?_)
      have hP : va_P D vwCl (w_Parser_this_tokens cI ad (o_this.1, 6, o_this.2.2) o_tokens) H := hP
      have hD : va_D A (w_Parser_this_tokens cI ad (o_this.1, 6, o_this.2.2) o_tokens) := hD
      cases hM
      exact rt_v hx hb hr hlk hP hD hS rfl dX4_take_23

set_option maxHeartbeats 4000000 in
set_option maxRecDepth 100000 in
theorem c_Parser_simpleType (l : Launch) (D : va_G) (cI : ClassId) (sd : Nat → Nat) (ad : Nat → Nat) (o_this : S_Parser) (o_tokens : S_Tokens) (o_tree : S_Tree) (a1 : Int32) (res : S_Parser × S_Tree) (hM : f_Parser_simpleType o_this o_tokens o_tree a1 = some res) : Ctr l D cI sd yX4_simpleType (wsM yX4_simpleType cX4_simpleType 2 (Option.none : Option Jvm.ClassFile.FieldType)) { frames := 1, cells := 0, slots := 0, locals := 25 } [.ref (ad 22), .int a1] (w_Parser_this_tokens_tree cI ad o_this o_tokens o_tree) (w_Parser_this_tokens_tree cI ad res.1 o_tokens res.2) none := by
  refine Ctr.of (cc := cX4_simpleType) (maxL := 2) (own := RX4) (by decide +kernel) rfl rfl (Nat.le_of_ble_eq_true rfl) ?_
  intro p e s m below meth c A ls hx hb hr hml hown hts hlk hK hE hA hP hD hS hl
  have hl : lv_has ls 2 [(0, .ref (ad 22)), (1, .int a1)] := hl
  unfold f_Parser_simpleType at hM
  refine lv_aload_n hx hb dX4_simpleType_0 rfl (lv_at hl 0 rfl) ?_
  refine va_get (D := D) (ci := 4) (v := .int o_this.2.1) (C := RX4) (T := TX4) (N := 12) hx hb hts layX4 hown hK hP 0 rfl rfl 3 (by decide) (hts _ (inA q400)) (fun _ h9 => h9) rfl dX4_simpleType_1 ?_
  refine lv_sipush (v := 267) hx hb dX4_simpleType_4 (by decide) ?_
  refine lv_icmp_eq (tgt := 30) hx hb dX4_simpleType_7 (by decide) (fun c1 => ?_) (fun c1 => ?_)
  · replace hM := if_t c1 hM
    refine lv_aload_n hx hb dX4_simpleType_30 rfl (lv_at hl 0 rfl) ?_
    refine va_get (D := D) (ci := 4) (v := .ref (ad 14)) (C := RX4) (T := TX4) (N := 12) hx hb hts layX4 hown hK hP 0 rfl rfl 1 (by decide) (hts _ (inA q398)) (fun _ h9 => h9) rfl dX4_simpleType_31 ?_
    refine lv_iload_n hx hb dX4_simpleType_34 rfl (lv_at hl 1 rfl) ?_
    refine lv_bipush (v := 8) hx hb dX4_simpleType_35 (by decide) ?_
    refine lv_aload_n hx hb dX4_simpleType_37 rfl (lv_at hl 0 rfl) ?_
    refine va_get (D := D) (ci := 4) (v := .int o_this.2.2.1) (C := RX4) (T := TX4) (N := 12) hx hb hts layX4 hown hK hP 0 rfl rfl 4 (by decide) (hts _ (inA q401)) (fun _ h9 => h9) rfl dX4_simpleType_38 ?_
    refine lv_aload_n hx hb dX4_simpleType_41 rfl (lv_at hl 0 rfl) ?_
    refine va_get (D := D) (ci := 4) (v := .int o_this.2.1) (C := RX4) (T := TX4) (N := 12) hx hb hts layX4 hown hK hP 0 rfl rfl 3 (by decide) (hts _ (inA q400)) (fun _ h9 => h9) rfl dX4_simpleType_42 ?_
    refine lv_sipush (v := 267) hx hb dX4_simpleType_45 (by decide) ?_
    refine lv_isub hx hb dX4_simpleType_48 ?_
    obtain ⟨r2, hcr2, hM⟩ := ob_use hM
    refine cl_V (As := [.int a1, .int 8, .int o_this.2.2.1, .int (o_this.2.1 - 267)]) (rest := []) (w_Parser_this_tokens_tree cI ad o_this o_tokens r2.2) (.int r2.1 :: []) ⟨hx, hb, hml, hown, hts⟩ (c_Tree_add l D cI sd ad o_tree a1 8 o_this.2.2.1 (o_this.2.1 - 267) r2 hcr2) (cwV2 hts q622 mvX3_add rfl rfl ⟨(Nat.le_of_ble_eq_true rfl), (Nat.le_of_ble_eq_true rfl)⟩) hK hE hA hP hD hS 5 (T := TX3) (N := 8) (ci := 3) rfl rfl [5, 6, 7, 8, 9, 10, 11, 12] rfl (by decide) rfl rfl rfl rfl rfl rfl hl.1 (Nat.le_of_ble_eq_true rfl) dX4_simpleType_49 ⟨Nat.zero_le _, Nat.zero_le _⟩ (fun H locs hP hD hS => ?_)
    refine lv_pop hx hb dX4_simpleType_52 rfl ?_
    refine lv_aload_n hx hb dX4_simpleType_53 rfl (lv_at hl 0 rfl) ?_
    refine lv_aload_n hx hb dX4_simpleType_54 rfl (lv_at hl 0 rfl) ?_
    refine va_get (D := D) (ci := 4) (v := .int o_this.2.1) (C := RX4) (T := TX4) (N := 12) hx hb hts layX4 hown hK hP 0 rfl rfl 3 (by decide) (hts _ (inA q400)) (fun _ h9 => h9) rfl dX4_simpleType_55 ?_
    obtain ⟨r3, hcr3, hM⟩ := ob_use hM
    refine cl_V (As := [.int o_this.2.1]) (rest := []) (w_Parser_this_tokens_tree cI ad r3 o_tokens r2.2) [] ⟨hx, hb, hml, hown, hts⟩ (c_Parser_take l D cI sd ad o_this o_tokens o_this.2.1 r3 hcr3) (cwV2 hts q614 mvX4_take rfl rfl ⟨(Nat.le_of_ble_eq_true rfl), (Nat.le_of_ble_eq_true rfl)⟩) hK hE hA hP hD hS 0 (T := TX4) (N := 12) (ci := 4) rfl rfl [0, 1, 2, 3, 4] rfl (by decide) rfl rfl rfl rfl rfl rfl hl.1 (Nat.le_of_ble_eq_true rfl) dX4_simpleType_58 ⟨Nat.zero_le _, Nat.zero_le _⟩ (fun H locs hP hD hS => ?_)
    refine lv_goto (tgt := 70) hx hb dX4_simpleType_61 (by decide) ?_
    cases hM
    exact rt_v hx hb hr hlk hP hD hS rfl dX4_simpleType_70
  · replace hM := if_f c1 hM
    refine lv_aload_n hx hb dX4_simpleType_10 rfl (lv_at hl 0 rfl) ?_
    refine va_get (D := D) (ci := 4) (v := .int o_this.2.1) (C := RX4) (T := TX4) (N := 12) hx hb hts layX4 hown hK hP 0 rfl rfl 3 (by decide) (hts _ (inA q400)) (fun _ h9 => h9) rfl dX4_simpleType_11 ?_
    refine lv_sipush (v := 268) hx hb dX4_simpleType_14 (by decide) ?_
    refine lv_icmp_eq (tgt := 30) hx hb dX4_simpleType_17 (by decide) (fun c4 => ?_) (fun c4 => ?_)
    · replace hM := if_t c4 hM
      refine lv_aload_n hx hb dX4_simpleType_30 rfl (lv_at hl 0 rfl) ?_
      refine va_get (D := D) (ci := 4) (v := .ref (ad 14)) (C := RX4) (T := TX4) (N := 12) hx hb hts layX4 hown hK hP 0 rfl rfl 1 (by decide) (hts _ (inA q398)) (fun _ h9 => h9) rfl dX4_simpleType_31 ?_
      refine lv_iload_n hx hb dX4_simpleType_34 rfl (lv_at hl 1 rfl) ?_
      refine lv_bipush (v := 8) hx hb dX4_simpleType_35 (by decide) ?_
      refine lv_aload_n hx hb dX4_simpleType_37 rfl (lv_at hl 0 rfl) ?_
      refine va_get (D := D) (ci := 4) (v := .int o_this.2.2.1) (C := RX4) (T := TX4) (N := 12) hx hb hts layX4 hown hK hP 0 rfl rfl 4 (by decide) (hts _ (inA q401)) (fun _ h9 => h9) rfl dX4_simpleType_38 ?_
      refine lv_aload_n hx hb dX4_simpleType_41 rfl (lv_at hl 0 rfl) ?_
      refine va_get (D := D) (ci := 4) (v := .int o_this.2.1) (C := RX4) (T := TX4) (N := 12) hx hb hts layX4 hown hK hP 0 rfl rfl 3 (by decide) (hts _ (inA q400)) (fun _ h9 => h9) rfl dX4_simpleType_42 ?_
      refine lv_sipush (v := 267) hx hb dX4_simpleType_45 (by decide) ?_
      refine lv_isub hx hb dX4_simpleType_48 ?_
      obtain ⟨r5, hcr5, hM⟩ := ob_use hM
      refine cl_V (As := [.int a1, .int 8, .int o_this.2.2.1, .int (o_this.2.1 - 267)]) (rest := []) (w_Parser_this_tokens_tree cI ad o_this o_tokens r5.2) (.int r5.1 :: []) ⟨hx, hb, hml, hown, hts⟩ (c_Tree_add l D cI sd ad o_tree a1 8 o_this.2.2.1 (o_this.2.1 - 267) r5 hcr5) (cwV2 hts q622 mvX3_add rfl rfl ⟨(Nat.le_of_ble_eq_true rfl), (Nat.le_of_ble_eq_true rfl)⟩) hK hE hA hP hD hS 5 (T := TX3) (N := 8) (ci := 3) rfl rfl [5, 6, 7, 8, 9, 10, 11, 12] rfl (by decide) rfl rfl rfl rfl rfl rfl hl.1 (Nat.le_of_ble_eq_true rfl) dX4_simpleType_49 ⟨Nat.zero_le _, Nat.zero_le _⟩ (fun H locs hP hD hS => ?_)
      refine lv_pop hx hb dX4_simpleType_52 rfl ?_
      refine lv_aload_n hx hb dX4_simpleType_53 rfl (lv_at hl 0 rfl) ?_
      refine lv_aload_n hx hb dX4_simpleType_54 rfl (lv_at hl 0 rfl) ?_
      refine va_get (D := D) (ci := 4) (v := .int o_this.2.1) (C := RX4) (T := TX4) (N := 12) hx hb hts layX4 hown hK hP 0 rfl rfl 3 (by decide) (hts _ (inA q400)) (fun _ h9 => h9) rfl dX4_simpleType_55 ?_
      obtain ⟨r6, hcr6, hM⟩ := ob_use hM
      refine cl_V (As := [.int o_this.2.1]) (rest := []) (w_Parser_this_tokens_tree cI ad r6 o_tokens r5.2) [] ⟨hx, hb, hml, hown, hts⟩ (c_Parser_take l D cI sd ad o_this o_tokens o_this.2.1 r6 hcr6) (cwV2 hts q614 mvX4_take rfl rfl ⟨(Nat.le_of_ble_eq_true rfl), (Nat.le_of_ble_eq_true rfl)⟩) hK hE hA hP hD hS 0 (T := TX4) (N := 12) (ci := 4) rfl rfl [0, 1, 2, 3, 4] rfl (by decide) rfl rfl rfl rfl rfl rfl hl.1 (Nat.le_of_ble_eq_true rfl) dX4_simpleType_58 ⟨Nat.zero_le _, Nat.zero_le _⟩ (fun H locs hP hD hS => ?_)
      refine lv_goto (tgt := 70) hx hb dX4_simpleType_61 (by decide) ?_
      cases hM
      exact rt_v hx hb hr hlk hP hD hS rfl dX4_simpleType_70
    · replace hM := if_f c4 hM
      refine lv_aload_n hx hb dX4_simpleType_20 rfl (lv_at hl 0 rfl) ?_
      refine va_get (D := D) (ci := 4) (v := .int o_this.2.1) (C := RX4) (T := TX4) (N := 12) hx hb hts layX4 hown hK hP 0 rfl rfl 3 (by decide) (hts _ (inA q400)) (fun _ h9 => h9) rfl dX4_simpleType_21 ?_
      refine lv_sipush (v := 269) hx hb dX4_simpleType_24 (by decide) ?_
      refine lv_icmp_ne (tgt := 64) hx hb dX4_simpleType_27 (by decide) (fun c7 => ?_) (fun c7 => ?_)
      · replace hM := if_f c7 hM
        refine lv_aload_n hx hb dX4_simpleType_64 rfl (lv_at hl 0 rfl) ?_
        refine lv_bipush (v := 6) hx hb dX4_simpleType_65 (by decide) ?_
        refine va_put (D := D) (ci := 4) (v := .int 6) (ty := .int) (C := RX4) (T := TX4) (N := 12) hx hb hts layX4 tyX4 tyX4_ok nmX4 hown hK hP hD hS 0 rfl rfl 3 (by decide) (hts _ (inA q400)) (fun _ h9 => h9) rfl (by decide +kernel) rfl rfl (Nat.le_of_ble_eq_true rfl) dX4_simpleType_67 (fun H locs hP hD hS => ?_)
        have hP : va_P D vwCl (w_Parser_this_tokens_tree cI ad (o_this.1, 6, o_this.2.2) o_tokens o_tree) H := hP
        have hD : va_D A (w_Parser_this_tokens_tree cI ad (o_this.1, 6, o_this.2.2) o_tokens o_tree) := hD
        cases hM
        exact rt_v hx hb hr hlk hP hD hS rfl dX4_simpleType_70
      · replace hM := if_t c7 hM
        refine lv_aload_n hx hb dX4_simpleType_30 rfl (lv_at hl 0 rfl) ?_
        refine va_get (D := D) (ci := 4) (v := .ref (ad 14)) (C := RX4) (T := TX4) (N := 12) hx hb hts layX4 hown hK hP 0 rfl rfl 1 (by decide) (hts _ (inA q398)) (fun _ h9 => h9) rfl dX4_simpleType_31 ?_
        refine lv_iload_n hx hb dX4_simpleType_34 rfl (lv_at hl 1 rfl) ?_
        refine lv_bipush (v := 8) hx hb dX4_simpleType_35 (by decide) ?_
        refine lv_aload_n hx hb dX4_simpleType_37 rfl (lv_at hl 0 rfl) ?_
        refine va_get (D := D) (ci := 4) (v := .int o_this.2.2.1) (C := RX4) (T := TX4) (N := 12) hx hb hts layX4 hown hK hP 0 rfl rfl 4 (by decide) (hts _ (inA q401)) (fun _ h9 => h9) rfl dX4_simpleType_38 ?_
        refine lv_aload_n hx hb dX4_simpleType_41 rfl (lv_at hl 0 rfl) ?_
        refine va_get (D := D) (ci := 4) (v := .int o_this.2.1) (C := RX4) (T := TX4) (N := 12) hx hb hts layX4 hown hK hP 0 rfl rfl 3 (by decide) (hts _ (inA q400)) (fun _ h9 => h9) rfl dX4_simpleType_42 ?_
        refine lv_sipush (v := 267) hx hb dX4_simpleType_45 (by decide) ?_
        refine lv_isub hx hb dX4_simpleType_48 ?_
        obtain ⟨r8, hcr8, hM⟩ := ob_use hM
        refine cl_V (As := [.int a1, .int 8, .int o_this.2.2.1, .int (o_this.2.1 - 267)]) (rest := []) (w_Parser_this_tokens_tree cI ad o_this o_tokens r8.2) (.int r8.1 :: []) ⟨hx, hb, hml, hown, hts⟩ (c_Tree_add l D cI sd ad o_tree a1 8 o_this.2.2.1 (o_this.2.1 - 267) r8 hcr8) (cwV2 hts q622 mvX3_add rfl rfl ⟨(Nat.le_of_ble_eq_true rfl), (Nat.le_of_ble_eq_true rfl)⟩) hK hE hA hP hD hS 5 (T := TX3) (N := 8) (ci := 3) rfl rfl [5, 6, 7, 8, 9, 10, 11, 12] rfl (by decide) rfl rfl rfl rfl rfl rfl hl.1 (Nat.le_of_ble_eq_true rfl) dX4_simpleType_49 ⟨Nat.zero_le _, Nat.zero_le _⟩ (fun H locs hP hD hS => ?_)
        refine lv_pop hx hb dX4_simpleType_52 rfl ?_
        refine lv_aload_n hx hb dX4_simpleType_53 rfl (lv_at hl 0 rfl) ?_
        refine lv_aload_n hx hb dX4_simpleType_54 rfl (lv_at hl 0 rfl) ?_
        refine va_get (D := D) (ci := 4) (v := .int o_this.2.1) (C := RX4) (T := TX4) (N := 12) hx hb hts layX4 hown hK hP 0 rfl rfl 3 (by decide) (hts _ (inA q400)) (fun _ h9 => h9) rfl dX4_simpleType_55 ?_
        obtain ⟨r9, hcr9, hM⟩ := ob_use hM
        refine cl_V (As := [.int o_this.2.1]) (rest := []) (w_Parser_this_tokens_tree cI ad r9 o_tokens r8.2) [] ⟨hx, hb, hml, hown, hts⟩ (c_Parser_take l D cI sd ad o_this o_tokens o_this.2.1 r9 hcr9) (cwV2 hts q614 mvX4_take rfl rfl ⟨(Nat.le_of_ble_eq_true rfl), (Nat.le_of_ble_eq_true rfl)⟩) hK hE hA hP hD hS 0 (T := TX4) (N := 12) (ci := 4) rfl rfl [0, 1, 2, 3, 4] rfl (by decide) rfl rfl rfl rfl rfl rfl hl.1 (Nat.le_of_ble_eq_true rfl) dX4_simpleType_58 ⟨Nat.zero_le _, Nat.zero_le _⟩ (fun H locs hP hD hS => ?_)
        refine lv_goto (tgt := 70) hx hb dX4_simpleType_61 (by decide) ?_
        cases hM
        exact rt_v hx hb hr hlk hP hD hS rfl dX4_simpleType_70

set_option maxHeartbeats 4000000 in
set_option maxRecDepth 100000 in
theorem c_Parser_takeName (l : Launch) (D : va_G) (cI : ClassId) (sd : Nat → Nat) (ad : Nat → Nat) (o_this : S_Parser) (o_tokens : S_Tokens) (res : Int32 × S_Parser) (hM : f_Parser_takeName o_this o_tokens = some res) : Ctr l D cI sd yX4_takeName (wsM yX4_takeName cX4_takeName 2 (Option.some Jvm.ClassFile.FieldType.int)) { frames := 1, cells := 0, slots := 0, locals := 22 } [.ref (ad 22)] (w_Parser_this_tokens cI ad o_this o_tokens) (w_Parser_this_tokens cI ad res.2 o_tokens) (some (.int res.1)) := by
  refine Ctr.of (cc := cX4_takeName) (maxL := 2) (own := RX4) (by decide +kernel) rfl rfl (Nat.le_of_ble_eq_true rfl) ?_
  intro p e s m below meth c A ls hx hb hr hml hown hts hlk hK hE hA hP hD hS hl
  have hl : lv_has ls 2 [(0, .ref (ad 22))] := hl
  unfold f_Parser_takeName at hM
  refine lv_aload_n hx hb dX4_takeName_0 rfl (lv_at hl 0 rfl) ?_
  refine va_get (D := D) (ci := 4) (v := .int o_this.2.2.2.1) (C := RX4) (T := TX4) (N := 12) hx hb hts layX4 hown hK hP 0 rfl rfl 5 (by decide) (hts _ (inA q402)) (fun _ h9 => h9) rfl dX4_takeName_1 ?_
  refine lv_istore_n (lv' := [(1, .int o_this.2.2.2.1), (0, .ref (ad 22))]) hx hb dX4_takeName_4 rfl hl (by decide) rfl (fun ls hl => ?_)
  refine lv_aload_n hx hb dX4_takeName_5 rfl (lv_at hl 1 rfl) ?_
  refine lv_iconst (v := 1) hx hb dX4_takeName_6 (by decide) ?_
  obtain ⟨r1, hcr1, hM⟩ := ob_use hM
  refine cl_V (As := [.int 1]) (rest := []) (w_Parser_this_tokens cI ad r1 o_tokens) [] ⟨hx, hb, hml, hown, hts⟩ (c_Parser_take l D cI sd ad o_this o_tokens 1 r1 hcr1) (cwV2 hts q614 mvX4_take rfl rfl ⟨(Nat.le_of_ble_eq_true rfl), (Nat.le_of_ble_eq_true rfl)⟩) hK hE hA hP hD hS 0 (T := TX4) (N := 12) (ci := 4) rfl rfl [0, 1, 2, 3, 4] rfl (by decide) rfl rfl rfl rfl rfl rfl hl.1 (Nat.le_of_ble_eq_true rfl) dX4_takeName_7 ⟨Nat.zero_le _, Nat.zero_le _⟩ (fun H locs hP hD hS => ?_)
  refine lv_iload_n hx hb dX4_takeName_10 rfl (lv_at hl 0 rfl) ?_
  cases hM
  exact rt_i hx hb hr hlk hP hD hS rfl dX4_takeName_11

set_option maxHeartbeats 4000000 in
set_option maxRecDepth 100000 in
theorem c_Parser_blockHead (l : Launch) (D : va_G) (cI : ClassId) (sd : Nat → Nat) (ad : Nat → Nat) (o_this : S_Parser) (o_tokens : S_Tokens) (o_tree : S_Tree) (a1 : Int32) (res : Int32 × S_Parser × S_Tree) (hM : f_Parser_blockHead o_this o_tokens o_tree a1 = some res) : Ctr l D cI sd yX4_blockHead (wsM yX4_blockHead cX4_blockHead 5 (Option.some Jvm.ClassFile.FieldType.int)) { frames := 2, cells := 0, slots := 0, locals := 46 } [.ref (ad 22), .int a1] (w_Parser_this_tokens_tree cI ad o_this o_tokens o_tree) (w_Parser_this_tokens_tree cI ad res.2.1 o_tokens res.2.2) (some (.int res.1)) := by
  refine Ctr.of (cc := cX4_blockHead) (maxL := 5) (own := RX4) (by decide +kernel) rfl rfl (Nat.le_of_ble_eq_true rfl) ?_
  intro p e s m below meth c A ls hx hb hr hml hown hts hlk hK hE hA hP hD hS hl
  have hl : lv_has ls 5 [(0, .ref (ad 22)), (1, .int a1)] := hl
  unfold f_Parser_blockHead at hM
  refine lv_aload_n hx hb dX4_blockHead_0 rfl (lv_at hl 0 rfl) ?_
  refine va_get (D := D) (ci := 4) (v := .int o_this.2.1) (C := RX4) (T := TX4) (N := 12) hx hb hts layX4 hown hK hP 0 rfl rfl 3 (by decide) (hts _ (inA q400)) (fun _ h9 => h9) rfl dX4_blockHead_1 ?_
  refine lv_istore_n (lv' := [(2, .int o_this.2.1), (0, .ref (ad 22)), (1, .int a1)]) hx hb dX4_blockHead_4 rfl hl (by decide) rfl (fun ls hl => ?_)
  refine lv_aload_n hx hb dX4_blockHead_5 rfl (lv_at hl 1 rfl) ?_
  refine va_get (D := D) (ci := 4) (v := .int o_this.2.2.1) (C := RX4) (T := TX4) (N := 12) hx hb hts layX4 hown hK hP 0 rfl rfl 4 (by decide) (hts _ (inA q401)) (fun _ h9 => h9) rfl dX4_blockHead_6 ?_
  refine lv_istore_n (lv' := [(3, .int o_this.2.2.1), (2, .int o_this.2.1), (0, .ref (ad 22)), (1, .int a1)]) hx hb dX4_blockHead_9 rfl hl (by decide) rfl (fun ls hl => ?_)
  refine lv_aload_n hx hb dX4_blockHead_10 rfl (lv_at hl 2 rfl) ?_
  refine lv_iload_n hx hb dX4_blockHead_11 rfl (lv_at hl 1 rfl) ?_
  obtain ⟨r1, hcr1, hM⟩ := ob_use hM
  refine cl_V (As := [.int o_this.2.1]) (rest := []) (w_Parser_this_tokens_tree cI ad r1 o_tokens o_tree) [] ⟨hx, hb, hml, hown, hts⟩ (c_Parser_take l D cI sd ad o_this o_tokens o_this.2.1 r1 hcr1) (cwV2 hts q614 mvX4_take rfl rfl ⟨(Nat.le_of_ble_eq_true rfl), (Nat.le_of_ble_eq_true rfl)⟩) hK hE hA hP hD hS 0 (T := TX4) (N := 12) (ci := 4) rfl rfl [0, 1, 2, 3, 4] rfl (by decide) rfl rfl rfl rfl rfl rfl hl.1 (Nat.le_of_ble_eq_true rfl) dX4_blockHead_12 ⟨Nat.zero_le _, Nat.zero_le _⟩ (fun H locs hP hD hS => ?_)
  refine lv_aload_n hx hb dX4_blockHead_15 rfl (lv_at hl 2 rfl) ?_
  refine va_get (D := D) (ci := 4) (v := .ref (ad 14)) (C := RX4) (T := TX4) (N := 12) hx hb hts layX4 hown hK hP 0 rfl rfl 1 (by decide) (hts _ (inA q398)) (fun _ h9 => h9) rfl dX4_blockHead_16 ?_
  refine lv_iload_n hx hb dX4_blockHead_19 rfl (lv_at hl 3 rfl) ?_
  refine lv_iload_n hx hb dX4_blockHead_20 rfl (lv_at hl 1 rfl) ?_
  obtain ⟨r2, hcr2, hM⟩ := ob_use hM
  refine cl_S (As := [.int o_this.2.1]) (rest := [.int a1, .ref (ad 14)]) (w_Parser_this_tokens_tree cI ad r1 o_tokens o_tree) (.int r2 :: [.int a1, .ref (ad 14)]) ⟨hx, hb, hml, hown, hts⟩ (c_Parser_kindOfBlock l D cI sd ad o_this.2.1 r2 hcr2) (cwS2 hts q634 mvX4_kindOfBlock rfl rfl ⟨(Nat.le_of_ble_eq_true rfl), (Nat.le_of_ble_eq_true rfl)⟩) hK hE hA hP hD hS [] rfl (by decide) rfl rfl rfl rfl rfl rfl hl.1 (Nat.le_of_ble_eq_true rfl) dX4_blockHead_21 ⟨Nat.zero_le _, Nat.zero_le _⟩ (fun H locs hP hD hS => ?_)
  refine lv_iload_n hx hb dX4_blockHead_24 rfl (lv_at hl 0 rfl) ?_
  refine lv_aload_n hx hb dX4_blockHead_25 rfl (lv_at hl 2 rfl) ?_
  obtain ⟨r3, hcr3, hM⟩ := ob_use hM
  refine cl_V (As := []) (rest := [.int o_this.2.2.1, .int r2, .int a1, .ref (ad 14)]) (w_Parser_this_tokens_tree cI ad r3.2 o_tokens o_tree) (.int r3.1 :: [.int o_this.2.2.1, .int r2, .int a1, .ref (ad 14)]) ⟨hx, hb, hml, hown, hts⟩ (c_Parser_takeName l D cI sd ad r1 o_tokens r3 hcr3) (cwV2 hts q637 mvX4_takeName rfl rfl ⟨(Nat.le_of_ble_eq_true rfl), (Nat.le_of_ble_eq_true rfl)⟩) hK hE hA hP hD hS 0 (T := TX4) (N := 12) (ci := 4) rfl rfl [0, 1, 2, 3, 4] rfl (by decide) rfl rfl rfl rfl rfl rfl hl.1 (Nat.le_of_ble_eq_true rfl) dX4_blockHead_26 ⟨Nat.zero_le _, Nat.zero_le _⟩ (fun H locs hP hD hS => ?_)
  obtain ⟨r4, hcr4, hM⟩ := ob_use hM
  refine cl_V (As := [.int a1, .int r2, .int o_this.2.2.1, .int r3.1]) (rest := []) (w_Parser_this_tokens_tree cI ad r3.2 o_tokens r4.2) (.int r4.1 :: []) ⟨hx, hb, hml, hown, hts⟩ (c_Tree_add l D cI sd ad o_tree a1 r2 o_this.2.2.1 r3.1 r4 hcr4) (cwV2 hts q622 mvX3_add rfl rfl ⟨(Nat.le_of_ble_eq_true rfl), (Nat.le_of_ble_eq_true rfl)⟩) hK hE hA hP hD hS 5 (T := TX3) (N := 8) (ci := 3) rfl rfl [5, 6, 7, 8, 9, 10, 11, 12] rfl (by decide) rfl rfl rfl rfl rfl rfl hl.1 (Nat.le_of_ble_eq_true rfl) dX4_blockHead_29 ⟨Nat.zero_le _, Nat.zero_le _⟩ (fun H locs hP hD hS => ?_)
  refine lv_istore (lv' := [(4, .int r4.1), (3, .int o_this.2.2.1), (2, .int o_this.2.1), (0, .ref (ad 22)), (1, .int a1)]) hx hb dX4_blockHead_32 hl (by decide) rfl (fun ls hl => ?_)
  refine lv_iload_n hx hb dX4_blockHead_34 rfl (lv_at hl 2 rfl) ?_
  refine lv_sipush (v := 256) hx hb dX4_blockHead_35 (by decide) ?_
  refine lv_icmp_ne (tgt := 53) hx hb dX4_blockHead_38 (by decide) (fun c5 => ?_) (fun c5 => ?_)
  · replace hM := if_f c5 hM
    refine lv_iload hx hb dX4_blockHead_53 (lv_at hl 0 rfl) ?_
    cases hM
    exact rt_i hx hb hr hlk hP hD hS rfl dX4_blockHead_55
  · replace hM := if_t c5 hM
    refine lv_aload_n hx hb dX4_blockHead_41 rfl (lv_at hl 3 rfl) ?_
    refine lv_bipush (v := 58) hx hb dX4_blockHead_42 (by decide) ?_
    obtain ⟨r6, hcr6, hM⟩ := ob_use hM
    refine cl_V (As := [.int 58]) (rest := []) (w_Parser_this_tokens_tree cI ad r6 o_tokens r4.2) [] ⟨hx, hb, hml, hown, hts⟩ (c_Parser_take l D cI sd ad r3.2 o_tokens 58 r6 hcr6) (cwV2 hts q614 mvX4_take rfl rfl ⟨(Nat.le_of_ble_eq_true rfl), (Nat.le_of_ble_eq_true rfl)⟩) hK hE hA hP hD hS 0 (T := TX4) (N := 12) (ci := 4) rfl rfl [0, 1, 2, 3, 4] rfl (by decide) rfl rfl rfl rfl rfl rfl hl.1 (Nat.le_of_ble_eq_true rfl) dX4_blockHead_44 ⟨Nat.zero_le _, Nat.zero_le _⟩ (fun H locs hP hD hS => ?_)
    refine lv_aload_n hx hb dX4_blockHead_47 rfl (lv_at hl 3 rfl) ?_
    refine lv_iload hx hb dX4_blockHead_48 (lv_at hl 0 rfl) ?_
    obtain ⟨r7, hcr7, hM⟩ := ob_use hM
    refine cl_V (As := [.int r4.1]) (rest := []) (w_Parser_this_tokens_tree cI ad r7.1 o_tokens r7.2) [] ⟨hx, hb, hml, hown, hts⟩ (c_Parser_simpleType l D cI sd ad r6 o_tokens r4.2 r4.1 r7 hcr7) (cwV2 hts q641 mvX4_simpleType rfl rfl ⟨(Nat.le_of_ble_eq_true rfl), (Nat.le_of_ble_eq_true rfl)⟩) hK hE hA hP hD hS 0 (T := TX4) (N := 12) (ci := 4) rfl rfl [0, 1, 2, 3, 4, 5, 6, 7, 8, 9, 10, 11, 12] rfl (by decide) rfl rfl rfl rfl rfl rfl hl.1 (Nat.le_of_ble_eq_true rfl) dX4_blockHead_50 ⟨Nat.zero_le _, Nat.zero_le _⟩ (fun H locs hP hD hS => ?_)
    refine lv_iload hx hb dX4_blockHead_53 (lv_at hl 0 rfl) ?_
    cases hM
    exact rt_i hx hb hr hlk hP hD hS rfl dX4_blockHead_55

set_option maxHeartbeats 4000000 in
set_option maxRecDepth 100000 in
theorem c_Parser_mayOpen (l : Launch) (D : va_G) (cI : ClassId) (sd : Nat → Nat) (ad : Nat → Nat) (o_this : S_Parser) (res : Int32 × S_Parser) (hM : f_Parser_mayOpen o_this = some res) : Ctr l D cI sd yX4_mayOpen (wsM yX4_mayOpen cX4_mayOpen 1 (Option.some Jvm.ClassFile.FieldType.boolean)) { frames := 0, cells := 0, slots := 0, locals := 0 } [.ref (ad 22)] (wP cI ad o_this) (wP cI ad res.2) (some (.int res.1)) := by
  refine Ctr.of (cc := cX4_mayOpen) (maxL := 1) (own := RX4) (by decide +kernel) rfl rfl (Nat.le_of_ble_eq_true rfl) ?_
  intro p e s m below meth c A ls hx hb hr hml hown hts hlk hK hE hA hP hD hS hl
  have hl : lv_has ls 1 [(0, .ref (ad 22))] := hl
  unfold f_Parser_mayOpen at hM
  refine lv_aload_n hx hb dX4_mayOpen_0 rfl (lv_at hl 0 rfl) ?_
  refine va_get (D := D) (ci := 4) (v := .int o_this.2.2.2.2.2.2.1) (C := RX4) (T := TX4) (N := 12) hx hb hts layX4 hown hK hP 0 rfl rfl 8 (by decide) (hts _ (inA q405)) (fun _ h9 => h9) rfl dX4_mayOpen_1 ?_
  refine lv_aload_n hx hb dX4_mayOpen_4 rfl (lv_at hl 0 rfl) ?_
  refine va_get (D := D) (ci := 4) (v := .int o_this.2.2.2.2.2.1) (C := RX4) (T := TX4) (N := 12) hx hb hts layX4 hown hK hP 0 rfl rfl 7 (by decide) (hts _ (inA q404)) (fun _ h9 => h9) rfl dX4_mayOpen_5 ?_
  refine lv_iadd hx hb dX4_mayOpen_8 ?_
  refine lv_bipush (v := 60) hx hb dX4_mayOpen_9 (by decide) ?_
  refine lv_icmp_ge (tgt := 16) hx hb dX4_mayOpen_11 (by decide) (fun c1 => ?_) (fun c1 => ?_)
  · replace hM := if_t c1 hM
    refine lv_aload_n hx hb dX4_mayOpen_16 rfl (lv_at hl 0 rfl) ?_
    refine lv_iconst (v := 1) hx hb dX4_mayOpen_17 (by decide) ?_
    refine va_put (D := D) (ci := 4) (v := .int 1) (ty := .boolean) (C := RX4) (T := TX4) (N := 12) hx hb hts layX4 tyX4 tyX4_ok nmX4 hown hK hP hD hS 0 rfl rfl 9 (by decide) (hts _ (inA q406)) (fun _ h9 => h9) rfl (by decide +kernel) (by decide) (by decide) (Nat.le_of_ble_eq_true rfl) dX4_mayOpen_18 (fun H locs hP hD hS => ?_)
    have hP : va_P D vwCl (wP cI ad (o_this.1, o_this.2.1, o_this.2.2.1, o_this.2.2.2.1, o_this.2.2.2.2.1, o_this.2.2.2.2.2.1, o_this.2.2.2.2.2.2.1, 1, o_this.2.2.2.2.2.2.2.2)) H := hP
    have hD : va_D A (wP cI ad (o_this.1, o_this.2.1, o_this.2.2.1, o_this.2.2.2.1, o_this.2.2.2.2.1, o_this.2.2.2.2.2.1, o_this.2.2.2.2.2.2.1, 1, o_this.2.2.2.2.2.2.2.2)) := hD
    refine lv_aload_n hx hb dX4_mayOpen_21 rfl (lv_at hl 0 rfl) ?_
    refine lv_bipush (v := 6) hx hb dX4_mayOpen_22 (by decide) ?_
    refine va_put (D := D) (ci := 4) (v := .int 6) (ty := .int) (C := RX4) (T := TX4) (N := 12) hx hb hts layX4 tyX4 tyX4_ok nmX4 hown hK hP hD hS 0 rfl rfl 3 (by decide) (hts _ (inA q400)) (fun _ h9 => h9) rfl (by decide +kernel) rfl rfl (Nat.le_of_ble_eq_true rfl) dX4_mayOpen_24 (fun H locs hP hD hS => ?_)
    have hP : va_P D vwCl (wP cI ad (o_this.1, 6, o_this.2.2.1, o_this.2.2.2.1, o_this.2.2.2.2.1, o_this.2.2.2.2.2.1, o_this.2.2.2.2.2.2.1, 1, o_this.2.2.2.2.2.2.2.2)) H := hP
    have hD : va_D A (wP cI ad (o_this.1, 6, o_this.2.2.1, o_this.2.2.2.1, o_this.2.2.2.2.1, o_this.2.2.2.2.2.1, o_this.2.2.2.2.2.2.1, 1, o_this.2.2.2.2.2.2.2.2)) := hD
    refine lv_iconst (v := 0) hx hb dX4_mayOpen_27 (by decide) ?_
    cases hM
    exact rt_z hx hb hr hlk (by decide) hP hD hS rfl dX4_mayOpen_28
  · replace hM := if_f c1 hM
    refine lv_iconst (v := 1) hx hb dX4_mayOpen_14 (by decide) ?_
    cases hM
    exact rt_z hx hb hr hlk (by decide) hP hD hS rfl dX4_mayOpen_15

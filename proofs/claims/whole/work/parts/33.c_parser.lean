set_option maxHeartbeats 4000000 in
set_option maxRecDepth 100000 in
theorem c_Parser_kindOfBlock (l : Launch) (D : va_G) (cI : ClassId) (sd : Nat → Nat) (ad : Nat → Nat) (a1 : Int32) (res : Int32) (hM : f_Parser_kindOfBlock a1 = some res) : Ctr l D cI sd yX4_kindOfBlock (wsM yX4_kindOfBlock cX4_kindOfBlock 1 (Option.some Jvm.ClassFile.FieldType.int)) { frames := 0, cells := 0, slots := 0, locals := 0 } [.int a1] (([] : va_W)) (([] : va_W)) (some (.int res)) := by
  refine Ctr.of (cc := cX4_kindOfBlock) (maxL := 1) (own := RX4) (by decide +kernel) rfl rfl (Nat.le_of_ble_eq_true rfl) ?_
  intro p e s m below meth c A ls hx hb hr hml hown hts hlk hK hE hA hP hD hS hl
  have hl : lv_has ls 1 [(0, .int a1)] := hl
  unfold f_Parser_kindOfBlock at hM
  refine lv_iload_n hx hb dX4_kindOfBlock_0 rfl (lv_at hl 0 rfl) ?_
  by_cases c1 : a1 = 256
  · replace hM := if_t c1 hM
    refine lv_lookup (off := 27) (tgt := 28) hx hb dX4_kindOfBlock_1 (by decide) (by exact sw_hit c1 (by decide)) (by decide) ?_
    refine lv_iconst (v := 1) hx hb dX4_kindOfBlock_28 (by decide) ?_
    cases hM
    exact rt_i hx hb hr hlk hP hD hS rfl dX4_kindOfBlock_29
  replace hM := if_f c1 hM
  by_cases c2 : a1 = 258
  · replace hM := if_t c2 hM
    refine lv_lookup (off := 29) (tgt := 30) hx hb dX4_kindOfBlock_1 (by decide) (by rw [lv_osw c1 (by decide)]; exact sw_hit c2 (by decide)) (by decide) ?_
    refine lv_iconst (v := 2) hx hb dX4_kindOfBlock_30 (by decide) ?_
    cases hM
    exact rt_i hx hb hr hlk hP hD hS rfl dX4_kindOfBlock_31
  replace hM := if_f c2 hM
  refine lv_lookup (off := 31) (tgt := 32) hx hb dX4_kindOfBlock_1 (by decide) (by rw [lv_osw c1 (by decide)]; rw [lv_osw c2 (by decide)]; rfl) (by decide) ?_
  refine lv_iconst (v := 3) hx hb dX4_kindOfBlock_32 (by decide) ?_
  cases hM
  exact rt_i hx hb hr hlk hP hD hS rfl dX4_kindOfBlock_33

set_option maxHeartbeats 4000000 in
set_option maxRecDepth 100000 in
theorem c_Parser_take (l : Launch) (D : va_G) (cI : ClassId) (sd : Nat → Nat) (ad : Nat → Nat) (o_this : S_Parser) (o_tokens : S_Tokens) (a1 : Int32) (res : S_Parser) (hM : f_Parser_take o_this o_tokens a1 = some res) : Ctr l D cI sd yX4_take (wsM yX4_take cX4_take 3 (Option.none : Option Jvm.ClassFile.FieldType)) { frames := 0, cells := 0, slots := 0, locals := 0 } [.ref (ad 22), .int a1] (wP cI ad o_this ++ wK cI ad o_tokens) (wP cI ad res ++ wK cI ad o_tokens) none := by
  refine Ctr.of (cc := cX4_take) (maxL := 3) (own := RX4) (by decide +kernel) rfl rfl (Nat.le_of_ble_eq_true rfl) ?_
  intro p e s m below meth c A ls hx hb hr hml hown hts hlk hK hE hA hP hD hS hl
  have hl : lv_has ls 3 [(0, .ref (ad 22)), (1, .int a1)] := hl
  unfold f_Parser_take at hM
  refine lv_aload_n hx hb dX4_take_0 rfl (lv_at hl 0 rfl) ?_
  refine va_get (D := D) (ci := 4) (v := .int o_this.2.1) (C := RX4) (T := TX4) (N := 12) hx hb hts layX4 hown hK hP 0 rfl rfl 3 (by decide) (hts _ (inA q400)) (fun _ h9 => h9) rfl dX4_take_1 ?_
  refine lv_iload_n hx hb dX4_take_4 rfl (lv_at hl 1 rfl) ?_
  refine lv_icmp_ne (tgt := 17) hx hb dX4_take_5 (by decide) (fun c1 => ?_) (fun c1 => ?_)
  · replace hM := if_f c1 hM
    refine lv_aload_n hx hb dX4_take_17 rfl (lv_at hl 0 rfl) ?_
    refine lv_bipush (v := 6) hx hb dX4_take_18 (by decide) ?_
    refine va_put (D := D) (ci := 4) (v := .int 6) (ty := .int) (C := RX4) (T := TX4) (N := 12) hx hb hts layX4 tyX4 tyX4_ok nmX4 hown hK hP hD hS 0 rfl rfl 3 (by decide) (hts _ (inA q400)) (fun _ h9 => h9) rfl (by decide +kernel) rfl rfl (Nat.le_of_ble_eq_true rfl) dX4_take_20 (fun H locs hP hD hS => ?_)
    have hP : va_P D vwCl (wP cI ad (o_this.1, 6, o_this.2.2) ++ wK cI ad o_tokens) H := hP
    have hD : va_D A (wP cI ad (o_this.1, 6, o_this.2.2) ++ wK cI ad o_tokens) := hD
    cases hM
    exact rt_v hx hb hr hlk hP hD hS rfl dX4_take_23
  · replace hM := if_t c1 hM
    refine lv_aload_n hx hb dX4_take_8 rfl (lv_at hl 0 rfl) ?_
    refine va_get (D := D) (ci := 4) (v := .int o_this.2.1) (C := RX4) (T := TX4) (N := 12) hx hb hts layX4 hown hK hP 0 rfl rfl 3 (by decide) (hts _ (inA q400)) (fun _ h9 => h9) rfl dX4_take_9 ?_
    refine lv_bipush (v := 6) hx hb dX4_take_12 (by decide) ?_
    refine lv_icmp_ne (tgt := 24) hx hb dX4_take_14 (by decide) (fun c2 => ?_) (fun c2 => ?_)
    · replace hM := if_f c2 hM
      refine lv_aload_n hx hb dX4_take_24 rfl (lv_at hl 0 rfl) ?_
      refine lv_aload_n hx hb dX4_take_25 rfl (lv_at hl 0 rfl) ?_
      refine va_get (D := D) (ci := 4) (v := .int o_this.2.2.1) (C := RX4) (T := TX4) (N := 12) hx hb hts layX4 hown hK hP 0 rfl rfl 4 (by decide) (hts _ (inA q401)) (fun _ h9 => h9) rfl dX4_take_26 ?_
      refine va_put (D := D) (ci := 4) (v := .int o_this.2.2.1) (ty := .int) (C := RX4) (T := TX4) (N := 12) hx hb hts layX4 tyX4 tyX4_ok nmX4 hown hK hP hD hS 0 rfl rfl 6 (by decide) (hts _ (inA q403)) (fun _ h9 => h9) rfl (by decide +kernel) rfl rfl (Nat.le_of_ble_eq_true rfl) dX4_take_29 (fun H locs hP hD hS => ?_)
      have hP : va_P D vwCl (wP cI ad (o_this.1, o_this.2.1, o_this.2.2.1, o_this.2.2.2.1, o_this.2.2.1, o_this.2.2.2.2.2) ++ wK cI ad o_tokens) H := hP
      have hD : va_D A (wP cI ad (o_this.1, o_this.2.1, o_this.2.2.1, o_this.2.2.2.1, o_this.2.2.1, o_this.2.2.2.2.2) ++ wK cI ad o_tokens) := hD
      refine lv_aload_n hx hb dX4_take_32 rfl (lv_at hl 0 rfl) ?_
      refine lv_dup hx hb dX4_take_33 rfl ?_
      refine va_get (D := D) (ci := 4) (v := .int o_this.1) (C := RX4) (T := TX4) (N := 12) hx hb hts layX4 hown hK hP 0 rfl rfl 2 (by decide) (hts _ (inA q399)) (fun _ h9 => h9) rfl dX4_take_34 ?_
      refine lv_iconst (v := 1) hx hb dX4_take_37 (by decide) ?_
      refine lv_iadd hx hb dX4_take_38 ?_
      refine va_put (D := D) (ci := 4) (v := .int (o_this.1 + 1)) (ty := .int) (C := RX4) (T := TX4) (N := 12) hx hb hts layX4 tyX4 tyX4_ok nmX4 hown hK hP hD hS 0 rfl rfl 2 (by decide) (hts _ (inA q399)) (fun _ h9 => h9) rfl (by decide +kernel) rfl rfl (Nat.le_of_ble_eq_true rfl) dX4_take_39 (fun H locs hP hD hS => ?_)
      have hP : va_P D vwCl (wP cI ad (o_this.1 + 1, o_this.2.1, o_this.2.2.1, o_this.2.2.2.1, o_this.2.2.1, o_this.2.2.2.2.2) ++ wK cI ad o_tokens) H := hP
      have hD : va_D A (wP cI ad (o_this.1 + 1, o_this.2.1, o_this.2.2.1, o_this.2.2.2.1, o_this.2.2.1, o_this.2.2.2.2.2) ++ wK cI ad o_tokens) := hD
      refine lv_aload_n hx hb dX4_take_42 rfl (lv_at hl 0 rfl) ?_
      refine va_get (D := D) (ci := 4) (v := .int (o_this.1 + 1)) (C := RX4) (T := TX4) (N := 12) hx hb hts layX4 hown hK hP 0 rfl rfl 2 (by decide) (hts _ (inA q399)) (fun _ h9 => h9) rfl dX4_take_43 ?_
      refine lv_if_lt (tgt := 77) hx hb dX4_take_46 (by decide) (fun c3 => ?_) (fun c3 => ?_)
      · replace hM := if_t c3 hM
        refine lv_iconst (v := 0) hx hb dX4_take_77 (by decide) ?_
        refine lv_istore_n (lv' := [(2, .int 0), (0, .ref (ad 22)), (1, .int a1)]) hx hb dX4_take_78 rfl hl (by decide) rfl (fun ls hl => ?_)
        refine lv_aload_n hx hb dX4_take_79 rfl (lv_at hl 1 rfl) ?_
        refine lv_iload_n hx hb dX4_take_80 rfl (lv_at hl 0 rfl) ?_
        refine lv_if_eq (tgt := 99) hx hb dX4_take_81 (by decide) (fun c4 => ?_) (fun c4 => False.elim (by revert c4; decide))
        refine lv_bipush (v := 6) hx hb dX4_take_99 (by decide) ?_
        refine va_put (D := D) (ci := 4) (v := .int 6) (ty := .int) (C := RX4) (T := TX4) (N := 12) hx hb hts layX4 tyX4 tyX4_ok nmX4 hown hK hP hD hS 0 rfl rfl 3 (by decide) (hts _ (inA q400)) (fun _ h9 => h9) rfl (by decide +kernel) rfl rfl (Nat.le_of_ble_eq_true rfl) dX4_take_101 (fun H locs hP hD hS => ?_)
        have hP : va_P D vwCl (wP cI ad (o_this.1 + 1, 6, o_this.2.2.1, o_this.2.2.2.1, o_this.2.2.1, o_this.2.2.2.2.2) ++ wK cI ad o_tokens) H := hP
        have hD : va_D A (wP cI ad (o_this.1 + 1, 6, o_this.2.2.1, o_this.2.2.2.1, o_this.2.2.1, o_this.2.2.2.2.2) ++ wK cI ad o_tokens) := hD
        refine lv_aload_n hx hb dX4_take_104 rfl (lv_at hl 1 rfl) ?_
        refine lv_iload_n hx hb dX4_take_105 rfl (lv_at hl 0 rfl) ?_
        refine lv_if_eq (tgt := 124) hx hb dX4_take_106 (by decide) (fun c5 => ?_) (fun c5 => False.elim (by revert c5; decide))
        refine lv_iconst (v := (-1)) hx hb dX4_take_124 (by decide) ?_
        refine va_put (D := D) (ci := 4) (v := .int (-1)) (ty := .int) (C := RX4) (T := TX4) (N := 12) hx hb hts layX4 tyX4 tyX4_ok nmX4 hown hK hP hD hS 0 rfl rfl 4 (by decide) (hts _ (inA q401)) (fun _ h9 => h9) rfl (by decide +kernel) rfl rfl (Nat.le_of_ble_eq_true rfl) dX4_take_125 (fun H locs hP hD hS => ?_)
        have hP : va_P D vwCl (wP cI ad (o_this.1 + 1, 6, (-1), o_this.2.2.2.1, o_this.2.2.1, o_this.2.2.2.2.2) ++ wK cI ad o_tokens) H := hP
        have hD : va_D A (wP cI ad (o_this.1 + 1, 6, (-1), o_this.2.2.2.1, o_this.2.2.1, o_this.2.2.2.2.2) ++ wK cI ad o_tokens) := hD
        refine lv_aload_n hx hb dX4_take_128 rfl (lv_at hl 1 rfl) ?_
        refine lv_iload_n hx hb dX4_take_129 rfl (lv_at hl 0 rfl) ?_
        refine lv_if_eq (tgt := 148) hx hb dX4_take_130 (by decide) (fun c6 => ?_) (fun c6 => False.elim (by revert c6; decide))
        refine lv_iconst (v := 0) hx hb dX4_take_148 (by decide) ?_
        refine va_put (D := D) (ci := 4) (v := .int 0) (ty := .int) (C := RX4) (T := TX4) (N := 12) hx hb hts layX4 tyX4 tyX4_ok nmX4 hown hK hP hD hS 0 rfl rfl 5 (by decide) (hts _ (inA q402)) (fun _ h9 => h9) rfl (by decide +kernel) rfl rfl (Nat.le_of_ble_eq_true rfl) dX4_take_149 (fun H locs hP hD hS => ?_)
        have hP : va_P D vwCl (wP cI ad (o_this.1 + 1, 6, (-1), 0, o_this.2.2.1, o_this.2.2.2.2.2) ++ wK cI ad o_tokens) H := hP
        have hD : va_D A (wP cI ad (o_this.1 + 1, 6, (-1), 0, o_this.2.2.1, o_this.2.2.2.2.2) ++ wK cI ad o_tokens) := hD
        cases hM
        exact rt_v hx hb hr hlk hP hD hS rfl dX4_take_152
      · replace hM := if_f c3 hM
        refine lv_aload_n hx hb dX4_take_49 rfl (lv_at hl 0 rfl) ?_
        refine va_get (D := D) (ci := 4) (v := .int (o_this.1 + 1)) (C := RX4) (T := TX4) (N := 12) hx hb hts layX4 hown hK hP 0 rfl rfl 2 (by decide) (hts _ (inA q399)) (fun _ h9 => h9) rfl dX4_take_50 ?_
        refine lv_aload_n hx hb dX4_take_53 rfl (lv_at hl 0 rfl) ?_
        refine va_get (D := D) (ci := 4) (v := .ref (ad 10)) (C := RX4) (T := TX4) (N := 12) hx hb hts layX4 hown hK hP 0 rfl rfl 0 (by decide) (hts _ (inA q397)) (fun _ h9 => h9) rfl dX4_take_54 ?_
        refine va_getN (D := D) (ci := 2) (v := .int o_tokens.1) (C := RX2) (T := TX2) (N := 7) hx hb hts layX2 hown hK hP 1 rfl rfl 5 (by decide) (nfE7 hE) (fun _ h9 => h9) rfl dX4_take_57 ?_
        refine lv_icmp_ge (tgt := 77) hx hb dX4_take_60 (by decide) (fun c7 => ?_) (fun c7 => ?_)
        · replace hM := if_t c7 hM
          refine lv_iconst (v := 0) hx hb dX4_take_77 (by decide) ?_
          refine lv_istore_n (lv' := [(2, .int 0), (0, .ref (ad 22)), (1, .int a1)]) hx hb dX4_take_78 rfl hl (by decide) rfl (fun ls hl => ?_)
          refine lv_aload_n hx hb dX4_take_79 rfl (lv_at hl 1 rfl) ?_
          refine lv_iload_n hx hb dX4_take_80 rfl (lv_at hl 0 rfl) ?_
          refine lv_if_eq (tgt := 99) hx hb dX4_take_81 (by decide) (fun c8 => ?_) (fun c8 => False.elim (by revert c8; decide))
          refine lv_bipush (v := 6) hx hb dX4_take_99 (by decide) ?_
          refine va_put (D := D) (ci := 4) (v := .int 6) (ty := .int) (C := RX4) (T := TX4) (N := 12) hx hb hts layX4 tyX4 tyX4_ok nmX4 hown hK hP hD hS 0 rfl rfl 3 (by decide) (hts _ (inA q400)) (fun _ h9 => h9) rfl (by decide +kernel) rfl rfl (Nat.le_of_ble_eq_true rfl) dX4_take_101 (fun H locs hP hD hS => ?_)
          have hP : va_P D vwCl (wP cI ad (o_this.1 + 1, 6, o_this.2.2.1, o_this.2.2.2.1, o_this.2.2.1, o_this.2.2.2.2.2) ++ wK cI ad o_tokens) H := hP
          have hD : va_D A (wP cI ad (o_this.1 + 1, 6, o_this.2.2.1, o_this.2.2.2.1, o_this.2.2.1, o_this.2.2.2.2.2) ++ wK cI ad o_tokens) := hD
          refine lv_aload_n hx hb dX4_take_104 rfl (lv_at hl 1 rfl) ?_
          refine lv_iload_n hx hb dX4_take_105 rfl (lv_at hl 0 rfl) ?_
          refine lv_if_eq (tgt := 124) hx hb dX4_take_106 (by decide) (fun c9 => ?_) (fun c9 => False.elim (by revert c9; decide))
          refine lv_iconst (v := (-1)) hx hb dX4_take_124 (by decide) ?_
          refine va_put (D := D) (ci := 4) (v := .int (-1)) (ty := .int) (C := RX4) (T := TX4) (N := 12) hx hb hts layX4 tyX4 tyX4_ok nmX4 hown hK hP hD hS 0 rfl rfl 4 (by decide) (hts _ (inA q401)) (fun _ h9 => h9) rfl (by decide +kernel) rfl rfl (Nat.le_of_ble_eq_true rfl) dX4_take_125 (fun H locs hP hD hS => ?_)
          have hP : va_P D vwCl (wP cI ad (o_this.1 + 1, 6, (-1), o_this.2.2.2.1, o_this.2.2.1, o_this.2.2.2.2.2) ++ wK cI ad o_tokens) H := hP
          have hD : va_D A (wP cI ad (o_this.1 + 1, 6, (-1), o_this.2.2.2.1, o_this.2.2.1, o_this.2.2.2.2.2) ++ wK cI ad o_tokens) := hD
          refine lv_aload_n hx hb dX4_take_128 rfl (lv_at hl 1 rfl) ?_
          refine lv_iload_n hx hb dX4_take_129 rfl (lv_at hl 0 rfl) ?_
          refine lv_if_eq (tgt := 148) hx hb dX4_take_130 (by decide) (fun c10 => ?_) (fun c10 => False.elim (by revert c10; decide))
          refine lv_iconst (v := 0) hx hb dX4_take_148 (by decide) ?_
          refine va_put (D := D) (ci := 4) (v := .int 0) (ty := .int) (C := RX4) (T := TX4) (N := 12) hx hb hts layX4 tyX4 tyX4_ok nmX4 hown hK hP hD hS 0 rfl rfl 5 (by decide) (hts _ (inA q402)) (fun _ h9 => h9) rfl (by decide +kernel) rfl rfl (Nat.le_of_ble_eq_true rfl) dX4_take_149 (fun H locs hP hD hS => ?_)
          have hP : va_P D vwCl (wP cI ad (o_this.1 + 1, 6, (-1), 0, o_this.2.2.1, o_this.2.2.2.2.2) ++ wK cI ad o_tokens) H := hP
          have hD : va_D A (wP cI ad (o_this.1 + 1, 6, (-1), 0, o_this.2.2.1, o_this.2.2.2.2.2) ++ wK cI ad o_tokens) := hD
          cases hM
          exact rt_v hx hb hr hlk hP hD hS rfl dX4_take_152
        · replace hM := if_f c7 hM
          refine lv_aload_n hx hb dX4_take_63 rfl (lv_at hl 0 rfl) ?_
          refine va_get (D := D) (ci := 4) (v := .int (o_this.1 + 1)) (C := RX4) (T := TX4) (N := 12) hx hb hts layX4 hown hK hP 0 rfl rfl 2 (by decide) (hts _ (inA q399)) (fun _ h9 => h9) rfl dX4_take_64 ?_
          refine lv_sipush (v := 8193) hx hb dX4_take_67 (by decide) ?_
          refine lv_icmp_ge (tgt := 77) hx hb dX4_take_70 (by decide) (fun c11 => ?_) (fun c11 => ?_)
          · replace hM := if_t c11 hM
            refine lv_iconst (v := 0) hx hb dX4_take_77 (by decide) ?_
            refine lv_istore_n (lv' := [(2, .int 0), (0, .ref (ad 22)), (1, .int a1)]) hx hb dX4_take_78 rfl hl (by decide) rfl (fun ls hl => ?_)
            refine lv_aload_n hx hb dX4_take_79 rfl (lv_at hl 1 rfl) ?_
            refine lv_iload_n hx hb dX4_take_80 rfl (lv_at hl 0 rfl) ?_
            refine lv_if_eq (tgt := 99) hx hb dX4_take_81 (by decide) (fun c12 => ?_) (fun c12 => False.elim (by revert c12; decide))
            refine lv_bipush (v := 6) hx hb dX4_take_99 (by decide) ?_
            refine va_put (D := D) (ci := 4) (v := .int 6) (ty := .int) (C := RX4) (T := TX4) (N := 12) hx hb hts layX4 tyX4 tyX4_ok nmX4 hown hK hP hD hS 0 rfl rfl 3 (by decide) (hts _ (inA q400)) (fun _ h9 => h9) rfl (by decide +kernel) rfl rfl (Nat.le_of_ble_eq_true rfl) dX4_take_101 (fun H locs hP hD hS => ?_)
            have hP : va_P D vwCl (wP cI ad (o_this.1 + 1, 6, o_this.2.2.1, o_this.2.2.2.1, o_this.2.2.1, o_this.2.2.2.2.2) ++ wK cI ad o_tokens) H := hP
            have hD : va_D A (wP cI ad (o_this.1 + 1, 6, o_this.2.2.1, o_this.2.2.2.1, o_this.2.2.1, o_this.2.2.2.2.2) ++ wK cI ad o_tokens) := hD
            refine lv_aload_n hx hb dX4_take_104 rfl (lv_at hl 1 rfl) ?_
            refine lv_iload_n hx hb dX4_take_105 rfl (lv_at hl 0 rfl) ?_
            refine lv_if_eq (tgt := 124) hx hb dX4_take_106 (by decide) (fun c13 => ?_) (fun c13 => False.elim (by revert c13; decide))
            refine lv_iconst (v := (-1)) hx hb dX4_take_124 (by decide) ?_
            refine va_put (D := D) (ci := 4) (v := .int (-1)) (ty := .int) (C := RX4) (T := TX4) (N := 12) hx hb hts layX4 tyX4 tyX4_ok nmX4 hown hK hP hD hS 0 rfl rfl 4 (by decide) (hts _ (inA q401)) (fun _ h9 => h9) rfl (by decide +kernel) rfl rfl (Nat.le_of_ble_eq_true rfl) dX4_take_125 (fun H locs hP hD hS => ?_)
            have hP : va_P D vwCl (wP cI ad (o_this.1 + 1, 6, (-1), o_this.2.2.2.1, o_this.2.2.1, o_this.2.2.2.2.2) ++ wK cI ad o_tokens) H := hP
            have hD : va_D A (wP cI ad (o_this.1 + 1, 6, (-1), o_this.2.2.2.1, o_this.2.2.1, o_this.2.2.2.2.2) ++ wK cI ad o_tokens) := hD
            refine lv_aload_n hx hb dX4_take_128 rfl (lv_at hl 1 rfl) ?_
            refine lv_iload_n hx hb dX4_take_129 rfl (lv_at hl 0 rfl) ?_
            refine lv_if_eq (tgt := 148) hx hb dX4_take_130 (by decide) (fun c14 => ?_) (fun c14 => False.elim (by revert c14; decide))
            refine lv_iconst (v := 0) hx hb dX4_take_148 (by decide) ?_
            refine va_put (D := D) (ci := 4) (v := .int 0) (ty := .int) (C := RX4) (T := TX4) (N := 12) hx hb hts layX4 tyX4 tyX4_ok nmX4 hown hK hP hD hS 0 rfl rfl 5 (by decide) (hts _ (inA q402)) (fun _ h9 => h9) rfl (by decide +kernel) rfl rfl (Nat.le_of_ble_eq_true rfl) dX4_take_149 (fun H locs hP hD hS => ?_)
            have hP : va_P D vwCl (wP cI ad (o_this.1 + 1, 6, (-1), 0, o_this.2.2.1, o_this.2.2.2.2.2) ++ wK cI ad o_tokens) H := hP
            have hD : va_D A (wP cI ad (o_this.1 + 1, 6, (-1), 0, o_this.2.2.1, o_this.2.2.2.2.2) ++ wK cI ad o_tokens) := hD
            cases hM
            exact rt_v hx hb hr hlk hP hD hS rfl dX4_take_152
          · replace hM := if_f c11 hM
            refine lv_iconst (v := 1) hx hb dX4_take_73 (by decide) ?_
            refine lv_goto (tgt := 78) hx hb dX4_take_74 (by decide) ?_
            refine lv_istore_n (lv' := [(2, .int 1), (0, .ref (ad 22)), (1, .int a1)]) hx hb dX4_take_78 rfl hl (by decide) rfl (fun ls hl => ?_)
            refine lv_aload_n hx hb dX4_take_79 rfl (lv_at hl 1 rfl) ?_
            refine lv_iload_n hx hb dX4_take_80 rfl (lv_at hl 0 rfl) ?_
            refine lv_if_eq (tgt := 99) hx hb dX4_take_81 (by decide) (fun c15 => False.elim (by revert c15; decide)) (fun c15 => ?_)
            refine lv_aload_n hx hb dX4_take_84 rfl (lv_at hl 1 rfl) ?_
            refine va_get (D := D) (ci := 4) (v := .ref (ad 10)) (C := RX4) (T := TX4) (N := 12) hx hb hts layX4 hown hK hP 0 rfl rfl 0 (by decide) (hts _ (inA q397)) (fun _ h9 => h9) rfl dX4_take_85 ?_
            refine va_getN (D := D) (ci := 2) (v := .ref (ad 11)) (C := RX2) (T := TX2) (N := 7) hx hb hts layX2 hown hK hP 1 rfl rfl 2 (by decide) (nfE4 hE) (fun _ h9 => h9) rfl dX4_take_88 ?_
            refine lv_aload_n hx hb dX4_take_91 rfl (lv_at hl 1 rfl) ?_
            refine va_get (D := D) (ci := 4) (v := .int (o_this.1 + 1)) (C := RX4) (T := TX4) (N := 12) hx hb hts layX4 hown hK hP 0 rfl rfl 2 (by decide) (hts _ (inA q399)) (fun _ h9 => h9) rfl dX4_take_92 ?_
            obtain ⟨b16, hM⟩ := gd_use hM
            refine va_iald hx hb hK hP 2 0 rfl rfl b16 dX4_take_95 ?_
            refine lv_goto (tgt := 101) hx hb dX4_take_96 (by decide) ?_
            refine lv_topi (fun x17 ex17 => ?_)
            replace hM := nm_use ex17 hM
            refine va_put (D := D) (ci := 4) (v := .int x17) (ty := .int) (C := RX4) (T := TX4) (N := 12) hx hb hts layX4 tyX4 tyX4_ok nmX4 hown hK hP hD hS 0 rfl rfl 3 (by decide) (hts _ (inA q400)) (fun _ h9 => h9) rfl (by decide +kernel) rfl rfl (Nat.le_of_ble_eq_true rfl) dX4_take_101 (fun H locs hP hD hS => ?_)
            have hP : va_P D vwCl (wP cI ad (o_this.1 + 1, x17, o_this.2.2.1, o_this.2.2.2.1, o_this.2.2.1, o_this.2.2.2.2.2) ++ wK cI ad o_tokens) H := hP
            have hD : va_D A (wP cI ad (o_this.1 + 1, x17, o_this.2.2.1, o_this.2.2.2.1, o_this.2.2.1, o_this.2.2.2.2.2) ++ wK cI ad o_tokens) := hD
            refine lv_aload_n hx hb dX4_take_104 rfl (lv_at hl 1 rfl) ?_
            refine lv_iload_n hx hb dX4_take_105 rfl (lv_at hl 0 rfl) ?_
            refine lv_if_eq (tgt := 124) hx hb dX4_take_106 (by decide) (fun c18 => False.elim (by revert c18; decide)) (fun c18 => ?_)
            refine lv_aload_n hx hb dX4_take_109 rfl (lv_at hl 1 rfl) ?_
            refine va_get (D := D) (ci := 4) (v := .ref (ad 10)) (C := RX4) (T := TX4) (N := 12) hx hb hts layX4 hown hK hP 0 rfl rfl 0 (by decide) (hts _ (inA q397)) (fun _ h9 => h9) rfl dX4_take_110 ?_
            refine va_getN (D := D) (ci := 2) (v := .ref (ad 12)) (C := RX2) (T := TX2) (N := 7) hx hb hts layX2 hown hK hP 1 rfl rfl 3 (by decide) (nfE5 hE) (fun _ h9 => h9) rfl dX4_take_113 ?_
            refine lv_aload_n hx hb dX4_take_116 rfl (lv_at hl 1 rfl) ?_
            refine va_get (D := D) (ci := 4) (v := .int (o_this.1 + 1)) (C := RX4) (T := TX4) (N := 12) hx hb hts layX4 hown hK hP 0 rfl rfl 2 (by decide) (hts _ (inA q399)) (fun _ h9 => h9) rfl dX4_take_117 ?_
            obtain ⟨b19, hM⟩ := gd_use hM
            refine va_iald hx hb hK hP 3 0 rfl rfl b19 dX4_take_120 ?_
            refine lv_goto (tgt := 125) hx hb dX4_take_121 (by decide) ?_
            refine lv_topi (fun x20 ex20 => ?_)
            replace hM := nm_use ex20 hM
            refine va_put (D := D) (ci := 4) (v := .int x20) (ty := .int) (C := RX4) (T := TX4) (N := 12) hx hb hts layX4 tyX4 tyX4_ok nmX4 hown hK hP hD hS 0 rfl rfl 4 (by decide) (hts _ (inA q401)) (fun _ h9 => h9) rfl (by decide +kernel) rfl rfl (Nat.le_of_ble_eq_true rfl) dX4_take_125 (fun H locs hP hD hS => ?_)
            have hP : va_P D vwCl (wP cI ad (o_this.1 + 1, x17, x20, o_this.2.2.2.1, o_this.2.2.1, o_this.2.2.2.2.2) ++ wK cI ad o_tokens) H := hP
            have hD : va_D A (wP cI ad (o_this.1 + 1, x17, x20, o_this.2.2.2.1, o_this.2.2.1, o_this.2.2.2.2.2) ++ wK cI ad o_tokens) := hD
            refine lv_aload_n hx hb dX4_take_128 rfl (lv_at hl 1 rfl) ?_
            refine lv_iload_n hx hb dX4_take_129 rfl (lv_at hl 0 rfl) ?_
            refine lv_if_eq (tgt := 148) hx hb dX4_take_130 (by decide) (fun c21 => False.elim (by revert c21; decide)) (fun c21 => ?_)
            refine lv_aload_n hx hb dX4_take_133 rfl (lv_at hl 1 rfl) ?_
            refine va_get (D := D) (ci := 4) (v := .ref (ad 10)) (C := RX4) (T := TX4) (N := 12) hx hb hts layX4 hown hK hP 0 rfl rfl 0 (by decide) (hts _ (inA q397)) (fun _ h9 => h9) rfl dX4_take_134 ?_
            refine va_getN (D := D) (ci := 2) (v := .ref (ad 13)) (C := RX2) (T := TX2) (N := 7) hx hb hts layX2 hown hK hP 1 rfl rfl 4 (by decide) (nfE6 hE) (fun _ h9 => h9) rfl dX4_take_137 ?_
            refine lv_aload_n hx hb dX4_take_140 rfl (lv_at hl 1 rfl) ?_
            refine va_get (D := D) (ci := 4) (v := .int (o_this.1 + 1)) (C := RX4) (T := TX4) (N := 12) hx hb hts layX4 hown hK hP 0 rfl rfl 2 (by decide) (hts _ (inA q399)) (fun _ h9 => h9) rfl dX4_take_141 ?_
            obtain ⟨b22, hM⟩ := gd_use hM
            refine va_iald hx hb hK hP 4 0 rfl rfl b22 dX4_take_144 ?_
            refine lv_goto (tgt := 149) hx hb dX4_take_145 (by decide) ?_
            refine lv_topi (fun x23 ex23 => ?_)
            replace hM := nm_use ex23 hM
            refine va_put (D := D) (ci := 4) (v := .int x23) (ty := .int) (C := RX4) (T := TX4) (N := 12) hx hb hts layX4 tyX4 tyX4_ok nmX4 hown hK hP hD hS 0 rfl rfl 5 (by decide) (hts _ (inA q402)) (fun _ h9 => h9) rfl (by decide +kernel) rfl rfl (Nat.le_of_ble_eq_true rfl) dX4_take_149 (fun H locs hP hD hS => ?_)
            have hP : va_P D vwCl (wP cI ad (o_this.1 + 1, x17, x20, x23, o_this.2.2.1, o_this.2.2.2.2.2) ++ wK cI ad o_tokens) H := hP
            have hD : va_D A (wP cI ad (o_this.1 + 1, x17, x20, x23, o_this.2.2.1, o_this.2.2.2.2.2) ++ wK cI ad o_tokens) := hD
            cases hM
            exact rt_v hx hb hr hlk hP hD hS rfl dX4_take_152
    · replace hM := if_t c2 hM
      refine lv_aload_n hx hb dX4_take_17 rfl (lv_at hl 0 rfl) ?_
      refine lv_bipush (v := 6) hx hb dX4_take_18 (by decide) ?_
      refine va_put (D := D) (ci := 4) (v := .int 6) (ty := .int) (C := RX4) (T := TX4) (N := 12) hx hb hts layX4 tyX4 tyX4_ok nmX4 hown hK hP hD hS 0 rfl rfl 3 (by decide) (hts _ (inA q400)) (fun _ h9 => h9) rfl (by decide +kernel) rfl rfl (Nat.le_of_ble_eq_true rfl) dX4_take_20 (fun H locs hP hD hS => ?_)
      have hP : va_P D vwCl (wP cI ad (o_this.1, 6, o_this.2.2) ++ wK cI ad o_tokens) H := hP
      have hD : va_D A (wP cI ad (o_this.1, 6, o_this.2.2) ++ wK cI ad o_tokens) := hD
      cases hM
      exact rt_v hx hb hr hlk hP hD hS rfl dX4_take_23

set_option maxHeartbeats 4000000 in
set_option maxRecDepth 100000 in
theorem c_Parser_simpleType (l : Launch) (D : va_G) (cI : ClassId) (sd : Nat → Nat) (ad : Nat → Nat) (o_this : S_Parser) (o_tokens : S_Tokens) (o_tree : S_Tree) (a1 : Int32) (res : S_Parser × S_Tree) (hM : f_Parser_simpleType o_this o_tokens o_tree a1 = some res) : Ctr l D cI sd yX4_simpleType (wsM yX4_simpleType cX4_simpleType 2 (Option.none : Option Jvm.ClassFile.FieldType)) { frames := 1, cells := 0, slots := 0, locals := 25 } [.ref (ad 22), .int a1] (wP cI ad o_this ++ wK cI ad o_tokens ++ wT cI ad o_tree) (wP cI ad res.1 ++ wK cI ad o_tokens ++ wT cI ad res.2) none := by
  refine Ctr.of (cc := cX4_simpleType) (maxL := 2) (own := RX4) (by decide +kernel) rfl rfl (Nat.le_of_ble_eq_true rfl) ?_
  intro p e s m below meth c A ls hx hb hr hml hown hts hlk hK hE hA hP hD hS hl
  have hl : lv_has ls 2 [(0, .ref (ad 22)), (1, .int a1)] := hl
  unfold f_Parser_simpleType at hM
  refine lv_aload_n hx hb dX4_simpleType_0 rfl (lv_at hl 0 rfl) ?_
  refine va_get (D := D) (ci := 4) (v := .int o_this.2.1) (C := RX4) (T := TX4) (N := 12) hx hb hts layX4 hown hK hP 0 rfl rfl 3 (by decide) (hts _ (inA q400)) (fun _ h9 => h9) rfl dX4_simpleType_1 ?_
  refine lv_sipush (v := 267) hx hb dX4_simpleType_4 (by decide) ?_
  refine lv_icmp_eq (tgt := 30) hx hb dX4_simpleType_7 (by decide) (fun c1 => ?_) (fun c1 => ?_)
  · replace hM := if_t c1 hM
    refine lv_aload_n hx hb dX4_simpleType_30 rfl (lv_at hl 0 rfl) ?_
    refine va_get (D := D) (ci := 4) (v := .ref (ad 14)) (C := RX4) (T := TX4) (N := 12) hx hb hts layX4 hown hK hP 0 rfl rfl 1 (by decide) (hts _ (inA q398)) (fun _ h9 => h9) rfl dX4_simpleType_31 ?_
    refine lv_iload_n hx hb dX4_simpleType_34 rfl (lv_at hl 1 rfl) ?_
    refine lv_bipush (v := 8) hx hb dX4_simpleType_35 (by decide) ?_
    refine lv_aload_n hx hb dX4_simpleType_37 rfl (lv_at hl 0 rfl) ?_
    refine va_get (D := D) (ci := 4) (v := .int o_this.2.2.1) (C := RX4) (T := TX4) (N := 12) hx hb hts layX4 hown hK hP 0 rfl rfl 4 (by decide) (hts _ (inA q401)) (fun _ h9 => h9) rfl dX4_simpleType_38 ?_
    refine lv_aload_n hx hb dX4_simpleType_41 rfl (lv_at hl 0 rfl) ?_
    refine va_get (D := D) (ci := 4) (v := .int o_this.2.1) (C := RX4) (T := TX4) (N := 12) hx hb hts layX4 hown hK hP 0 rfl rfl 3 (by decide) (hts _ (inA q400)) (fun _ h9 => h9) rfl dX4_simpleType_42 ?_
    refine lv_sipush (v := 267) hx hb dX4_simpleType_45 (by decide) ?_
    refine lv_isub hx hb dX4_simpleType_48 ?_
    obtain ⟨r2, hcr2, hM⟩ := ob_use hM
    refine cl_V (As := [.int a1, .int 8, .int o_this.2.2.1, .int (o_this.2.1 - 267)]) (rest := []) (wP cI ad o_this ++ wK cI ad o_tokens ++ wT cI ad r2.2) (.int r2.1 :: []) ⟨hx, hb, hml, hown, hts⟩ (c_Tree_add l D cI sd ad o_tree a1 8 o_this.2.2.1 (o_this.2.1 - 267) r2 hcr2) (cwV2 hts q622 mvX3_add rfl rfl ⟨(Nat.le_of_ble_eq_true rfl), (Nat.le_of_ble_eq_true rfl)⟩) hK hE hA hP hD hS 5 (T := TX3) (N := 8) (ci := 3) rfl rfl [5, 6, 7, 8, 9, 10, 11, 12] rfl (by decide) rfl rfl rfl rfl rfl rfl hl.1 (Nat.le_of_ble_eq_true rfl) dX4_simpleType_49 ⟨Nat.zero_le _, Nat.zero_le _⟩ (fun H locs hP hD hS => ?_)
    refine lv_pop hx hb dX4_simpleType_52 rfl ?_
    refine lv_aload_n hx hb dX4_simpleType_53 rfl (lv_at hl 0 rfl) ?_
    refine lv_aload_n hx hb dX4_simpleType_54 rfl (lv_at hl 0 rfl) ?_
    refine va_get (D := D) (ci := 4) (v := .int o_this.2.1) (C := RX4) (T := TX4) (N := 12) hx hb hts layX4 hown hK hP 0 rfl rfl 3 (by decide) (hts _ (inA q400)) (fun _ h9 => h9) rfl dX4_simpleType_55 ?_
    obtain ⟨r3, hcr3, hM⟩ := ob_use hM
    refine cl_V (As := [.int o_this.2.1]) (rest := []) (wP cI ad r3 ++ wK cI ad o_tokens ++ wT cI ad r2.2) [] ⟨hx, hb, hml, hown, hts⟩ (c_Parser_take l D cI sd ad o_this o_tokens o_this.2.1 r3 hcr3) (cwV2 hts q614 mvX4_take rfl rfl ⟨(Nat.le_of_ble_eq_true rfl), (Nat.le_of_ble_eq_true rfl)⟩) hK hE hA hP hD hS 0 (T := TX4) (N := 12) (ci := 4) rfl rfl [0, 1, 2, 3, 4] rfl (by decide) rfl rfl rfl rfl rfl rfl hl.1 (Nat.le_of_ble_eq_true rfl) dX4_simpleType_58 ⟨Nat.zero_le _, Nat.zero_le _⟩ (fun H locs hP hD hS => ?_)
    refine lv_goto (tgt := 70) hx hb dX4_simpleType_61 (by decide) ?_
    cases hM
    exact rt_v hx hb hr hlk hP hD hS rfl dX4_simpleType_70
  · replace hM := if_f c1 hM
    refine lv_aload_n hx hb dX4_simpleType_10 rfl (lv_at hl 0 rfl) ?_
    refine va_get (D := D) (ci := 4) (v := .int o_this.2.1) (C := RX4) (T := TX4) (N := 12) hx hb hts layX4 hown hK hP 0 rfl rfl 3 (by decide) (hts _ (inA q400)) (fun _ h9 => h9) rfl dX4_simpleType_11 ?_
    refine lv_sipush (v := 268) hx hb dX4_simpleType_14 (by decide) ?_
    refine lv_icmp_eq (tgt := 30) hx hb dX4_simpleType_17 (by decide) (fun c4 => ?_) (fun c4 => ?_)
    · replace hM := if_t c4 hM
      refine lv_aload_n hx hb dX4_simpleType_30 rfl (lv_at hl 0 rfl) ?_
      refine va_get (D := D) (ci := 4) (v := .ref (ad 14)) (C := RX4) (T := TX4) (N := 12) hx hb hts layX4 hown hK hP 0 rfl rfl 1 (by decide) (hts _ (inA q398)) (fun _ h9 => h9) rfl dX4_simpleType_31 ?_
      refine lv_iload_n hx hb dX4_simpleType_34 rfl (lv_at hl 1 rfl) ?_
      refine lv_bipush (v := 8) hx hb dX4_simpleType_35 (by decide) ?_
      refine lv_aload_n hx hb dX4_simpleType_37 rfl (lv_at hl 0 rfl) ?_
      refine va_get (D := D) (ci := 4) (v := .int o_this.2.2.1) (C := RX4) (T := TX4) (N := 12) hx hb hts layX4 hown hK hP 0 rfl rfl 4 (by decide) (hts _ (inA q401)) (fun _ h9 => h9) rfl dX4_simpleType_38 ?_
      refine lv_aload_n hx hb dX4_simpleType_41 rfl (lv_at hl 0 rfl) ?_
      refine va_get (D := D) (ci := 4) (v := .int o_this.2.1) (C := RX4) (T := TX4) (N := 12) hx hb hts layX4 hown hK hP 0 rfl rfl 3 (by decide) (hts _ (inA q400)) (fun _ h9 => h9) rfl dX4_simpleType_42 ?_
      refine lv_sipush (v := 267) hx hb dX4_simpleType_45 (by decide) ?_
      refine lv_isub hx hb dX4_simpleType_48 ?_
      obtain ⟨r5, hcr5, hM⟩ := ob_use hM
      refine cl_V (As := [.int a1, .int 8, .int o_this.2.2.1, .int (o_this.2.1 - 267)]) (rest := []) (wP cI ad o_this ++ wK cI ad o_tokens ++ wT cI ad r5.2) (.int r5.1 :: []) ⟨hx, hb, hml, hown, hts⟩ (c_Tree_add l D cI sd ad o_tree a1 8 o_this.2.2.1 (o_this.2.1 - 267) r5 hcr5) (cwV2 hts q622 mvX3_add rfl rfl ⟨(Nat.le_of_ble_eq_true rfl), (Nat.le_of_ble_eq_true rfl)⟩) hK hE hA hP hD hS 5 (T := TX3) (N := 8) (ci := 3) rfl rfl [5, 6, 7, 8, 9, 10, 11, 12] rfl (by decide) rfl rfl rfl rfl rfl rfl hl.1 (Nat.le_of_ble_eq_true rfl) dX4_simpleType_49 ⟨Nat.zero_le _, Nat.zero_le _⟩ (fun H locs hP hD hS => ?_)
      refine lv_pop hx hb dX4_simpleType_52 rfl ?_
      refine lv_aload_n hx hb dX4_simpleType_53 rfl (lv_at hl 0 rfl) ?_
      refine lv_aload_n hx hb dX4_simpleType_54 rfl (lv_at hl 0 rfl) ?_
      refine va_get (D := D) (ci := 4) (v := .int o_this.2.1) (C := RX4) (T := TX4) (N := 12) hx hb hts layX4 hown hK hP 0 rfl rfl 3 (by decide) (hts _ (inA q400)) (fun _ h9 => h9) rfl dX4_simpleType_55 ?_
      obtain ⟨r6, hcr6, hM⟩ := ob_use hM
      refine cl_V (As := [.int o_this.2.1]) (rest := []) (wP cI ad r6 ++ wK cI ad o_tokens ++ wT cI ad r5.2) [] ⟨hx, hb, hml, hown, hts⟩ (c_Parser_take l D cI sd ad o_this o_tokens o_this.2.1 r6 hcr6) (cwV2 hts q614 mvX4_take rfl rfl ⟨(Nat.le_of_ble_eq_true rfl), (Nat.le_of_ble_eq_true rfl)⟩) hK hE hA hP hD hS 0 (T := TX4) (N := 12) (ci := 4) rfl rfl [0, 1, 2, 3, 4] rfl (by decide) rfl rfl rfl rfl rfl rfl hl.1 (Nat.le_of_ble_eq_true rfl) dX4_simpleType_58 ⟨Nat.zero_le _, Nat.zero_le _⟩ (fun H locs hP hD hS => ?_)
      refine lv_goto (tgt := 70) hx hb dX4_simpleType_61 (by decide) ?_
      cases hM
      exact rt_v hx hb hr hlk hP hD hS rfl dX4_simpleType_70
    · replace hM := if_f c4 hM
      refine lv_aload_n hx hb dX4_simpleType_20 rfl (lv_at hl 0 rfl) ?_
      refine va_get (D := D) (ci := 4) (v := .int o_this.2.1) (C := RX4) (T := TX4) (N := 12) hx hb hts layX4 hown hK hP 0 rfl rfl 3 (by decide) (hts _ (inA q400)) (fun _ h9 => h9) rfl dX4_simpleType_21 ?_
      refine lv_sipush (v := 269) hx hb dX4_simpleType_24 (by decide) ?_
      refine lv_icmp_ne (tgt := 64) hx hb dX4_simpleType_27 (by decide) (fun c7 => ?_) (fun c7 => ?_)
      · replace hM := if_f c7 hM
        refine lv_aload_n hx hb dX4_simpleType_64 rfl (lv_at hl 0 rfl) ?_
        refine lv_bipush (v := 6) hx hb dX4_simpleType_65 (by decide) ?_
        refine va_put (D := D) (ci := 4) (v := .int 6) (ty := .int) (C := RX4) (T := TX4) (N := 12) hx hb hts layX4 tyX4 tyX4_ok nmX4 hown hK hP hD hS 0 rfl rfl 3 (by decide) (hts _ (inA q400)) (fun _ h9 => h9) rfl (by decide +kernel) rfl rfl (Nat.le_of_ble_eq_true rfl) dX4_simpleType_67 (fun H locs hP hD hS => ?_)
        have hP : va_P D vwCl (wP cI ad (o_this.1, 6, o_this.2.2) ++ wK cI ad o_tokens ++ wT cI ad o_tree) H := hP
        have hD : va_D A (wP cI ad (o_this.1, 6, o_this.2.2) ++ wK cI ad o_tokens ++ wT cI ad o_tree) := hD
        cases hM
        exact rt_v hx hb hr hlk hP hD hS rfl dX4_simpleType_70
      · replace hM := if_t c7 hM
        refine lv_aload_n hx hb dX4_simpleType_30 rfl (lv_at hl 0 rfl) ?_
        refine va_get (D := D) (ci := 4) (v := .ref (ad 14)) (C := RX4) (T := TX4) (N := 12) hx hb hts layX4 hown hK hP 0 rfl rfl 1 (by decide) (hts _ (inA q398)) (fun _ h9 => h9) rfl dX4_simpleType_31 ?_
        refine lv_iload_n hx hb dX4_simpleType_34 rfl (lv_at hl 1 rfl) ?_
        refine lv_bipush (v := 8) hx hb dX4_simpleType_35 (by decide) ?_
        refine lv_aload_n hx hb dX4_simpleType_37 rfl (lv_at hl 0 rfl) ?_
        refine va_get (D := D) (ci := 4) (v := .int o_this.2.2.1) (C := RX4) (T := TX4) (N := 12) hx hb hts layX4 hown hK hP 0 rfl rfl 4 (by decide) (hts _ (inA q401)) (fun _ h9 => h9) rfl dX4_simpleType_38 ?_
        refine lv_aload_n hx hb dX4_simpleType_41 rfl (lv_at hl 0 rfl) ?_
        refine va_get (D := D) (ci := 4) (v := .int o_this.2.1) (C := RX4) (T := TX4) (N := 12) hx hb hts layX4 hown hK hP 0 rfl rfl 3 (by decide) (hts _ (inA q400)) (fun _ h9 => h9) rfl dX4_simpleType_42 ?_
        refine lv_sipush (v := 267) hx hb dX4_simpleType_45 (by decide) ?_
        refine lv_isub hx hb dX4_simpleType_48 ?_
        obtain ⟨r8, hcr8, hM⟩ := ob_use hM
        refine cl_V (As := [.int a1, .int 8, .int o_this.2.2.1, .int (o_this.2.1 - 267)]) (rest := []) (wP cI ad o_this ++ wK cI ad o_tokens ++ wT cI ad r8.2) (.int r8.1 :: []) ⟨hx, hb, hml, hown, hts⟩ (c_Tree_add l D cI sd ad o_tree a1 8 o_this.2.2.1 (o_this.2.1 - 267) r8 hcr8) (cwV2 hts q622 mvX3_add rfl rfl ⟨(Nat.le_of_ble_eq_true rfl), (Nat.le_of_ble_eq_true rfl)⟩) hK hE hA hP hD hS 5 (T := TX3) (N := 8) (ci := 3) rfl rfl [5, 6, 7, 8, 9, 10, 11, 12] rfl (by decide) rfl rfl rfl rfl rfl rfl hl.1 (Nat.le_of_ble_eq_true rfl) dX4_simpleType_49 ⟨Nat.zero_le _, Nat.zero_le _⟩ (fun H locs hP hD hS => ?_)
        refine lv_pop hx hb dX4_simpleType_52 rfl ?_
        refine lv_aload_n hx hb dX4_simpleType_53 rfl (lv_at hl 0 rfl) ?_
        refine lv_aload_n hx hb dX4_simpleType_54 rfl (lv_at hl 0 rfl) ?_
        refine va_get (D := D) (ci := 4) (v := .int o_this.2.1) (C := RX4) (T := TX4) (N := 12) hx hb hts layX4 hown hK hP 0 rfl rfl 3 (by decide) (hts _ (inA q400)) (fun _ h9 => h9) rfl dX4_simpleType_55 ?_
        obtain ⟨r9, hcr9, hM⟩ := ob_use hM
        refine cl_V (As := [.int o_this.2.1]) (rest := []) (wP cI ad r9 ++ wK cI ad o_tokens ++ wT cI ad r8.2) [] ⟨hx, hb, hml, hown, hts⟩ (c_Parser_take l D cI sd ad o_this o_tokens o_this.2.1 r9 hcr9) (cwV2 hts q614 mvX4_take rfl rfl ⟨(Nat.le_of_ble_eq_true rfl), (Nat.le_of_ble_eq_true rfl)⟩) hK hE hA hP hD hS 0 (T := TX4) (N := 12) (ci := 4) rfl rfl [0, 1, 2, 3, 4] rfl (by decide) rfl rfl rfl rfl rfl rfl hl.1 (Nat.le_of_ble_eq_true rfl) dX4_simpleType_58 ⟨Nat.zero_le _, Nat.zero_le _⟩ (fun H locs hP hD hS => ?_)
        refine lv_goto (tgt := 70) hx hb dX4_simpleType_61 (by decide) ?_
        cases hM
        exact rt_v hx hb hr hlk hP hD hS rfl dX4_simpleType_70

set_option maxHeartbeats 4000000 in
set_option maxRecDepth 100000 in
theorem c_Parser_takeName (l : Launch) (D : va_G) (cI : ClassId) (sd : Nat → Nat) (ad : Nat → Nat) (o_this : S_Parser) (o_tokens : S_Tokens) (res : Int32 × S_Parser) (hM : f_Parser_takeName o_this o_tokens = some res) : Ctr l D cI sd yX4_takeName (wsM yX4_takeName cX4_takeName 2 (Option.some Jvm.ClassFile.FieldType.int)) { frames := 1, cells := 0, slots := 0, locals := 22 } [.ref (ad 22)] (wP cI ad o_this ++ wK cI ad o_tokens) (wP cI ad res.2 ++ wK cI ad o_tokens) (some (.int res.1)) := by
  refine Ctr.of (cc := cX4_takeName) (maxL := 2) (own := RX4) (by decide +kernel) rfl rfl (Nat.le_of_ble_eq_true rfl) ?_
  intro p e s m below meth c A ls hx hb hr hml hown hts hlk hK hE hA hP hD hS hl
  have hl : lv_has ls 2 [(0, .ref (ad 22))] := hl
  unfold f_Parser_takeName at hM
  refine lv_aload_n hx hb dX4_takeName_0 rfl (lv_at hl 0 rfl) ?_
  refine va_get (D := D) (ci := 4) (v := .int o_this.2.2.2.1) (C := RX4) (T := TX4) (N := 12) hx hb hts layX4 hown hK hP 0 rfl rfl 5 (by decide) (hts _ (inA q402)) (fun _ h9 => h9) rfl dX4_takeName_1 ?_
  refine lv_istore_n (lv' := [(1, .int o_this.2.2.2.1), (0, .ref (ad 22))]) hx hb dX4_takeName_4 rfl hl (by decide) rfl (fun ls hl => ?_)
  refine lv_aload_n hx hb dX4_takeName_5 rfl (lv_at hl 1 rfl) ?_
  refine lv_iconst (v := 1) hx hb dX4_takeName_6 (by decide) ?_
  obtain ⟨r1, hcr1, hM⟩ := ob_use hM
  refine cl_V (As := [.int 1]) (rest := []) (wP cI ad r1 ++ wK cI ad o_tokens) [] ⟨hx, hb, hml, hown, hts⟩ (c_Parser_take l D cI sd ad o_this o_tokens 1 r1 hcr1) (cwV2 hts q614 mvX4_take rfl rfl ⟨(Nat.le_of_ble_eq_true rfl), (Nat.le_of_ble_eq_true rfl)⟩) hK hE hA hP hD hS 0 (T := TX4) (N := 12) (ci := 4) rfl rfl [0, 1, 2, 3, 4] rfl (by decide) rfl rfl rfl rfl rfl rfl hl.1 (Nat.le_of_ble_eq_true rfl) dX4_takeName_7 ⟨Nat.zero_le _, Nat.zero_le _⟩ (fun H locs hP hD hS => ?_)
  refine lv_iload_n hx hb dX4_takeName_10 rfl (lv_at hl 0 rfl) ?_
  cases hM
  exact rt_i hx hb hr hlk hP hD hS rfl dX4_takeName_11

set_option maxHeartbeats 4000000 in
set_option maxRecDepth 100000 in
theorem c_Parser_blockHead (l : Launch) (D : va_G) (cI : ClassId) (sd : Nat → Nat) (ad : Nat → Nat) (o_this : S_Parser) (o_tokens : S_Tokens) (o_tree : S_Tree) (a1 : Int32) (res : Int32 × S_Parser × S_Tree) (hM : f_Parser_blockHead o_this o_tokens o_tree a1 = some res) : Ctr l D cI sd yX4_blockHead (wsM yX4_blockHead cX4_blockHead 5 (Option.some Jvm.ClassFile.FieldType.int)) { frames := 2, cells := 0, slots := 0, locals := 46 } [.ref (ad 22), .int a1] (wP cI ad o_this ++ wK cI ad o_tokens ++ wT cI ad o_tree) (wP cI ad res.2.1 ++ wK cI ad o_tokens ++ wT cI ad res.2.2) (some (.int res.1)) := by
  refine Ctr.of (cc := cX4_blockHead) (maxL := 5) (own := RX4) (by decide +kernel) rfl rfl (Nat.le_of_ble_eq_true rfl) ?_
  intro p e s m below meth c A ls hx hb hr hml hown hts hlk hK hE hA hP hD hS hl
  have hl : lv_has ls 5 [(0, .ref (ad 22)), (1, .int a1)] := hl
  unfold f_Parser_blockHead at hM
  refine lv_aload_n hx hb dX4_blockHead_0 rfl (lv_at hl 0 rfl) ?_
  refine va_get (D := D) (ci := 4) (v := .int o_this.2.1) (C := RX4) (T := TX4) (N := 12) hx hb hts layX4 hown hK hP 0 rfl rfl 3 (by decide) (hts _ (inA q400)) (fun _ h9 => h9) rfl dX4_blockHead_1 ?_
  refine lv_istore_n (lv' := [(2, .int o_this.2.1), (0, .ref (ad 22)), (1, .int a1)]) hx hb dX4_blockHead_4 rfl hl (by decide) rfl (fun ls hl => ?_)
  refine lv_aload_n hx hb dX4_blockHead_5 rfl (lv_at hl 1 rfl) ?_
  refine va_get (D := D) (ci := 4) (v := .int o_this.2.2.1) (C := RX4) (T := TX4) (N := 12) hx hb hts layX4 hown hK hP 0 rfl rfl 4 (by decide) (hts _ (inA q401)) (fun _ h9 => h9) rfl dX4_blockHead_6 ?_
  refine lv_istore_n (lv' := [(3, .int o_this.2.2.1), (2, .int o_this.2.1), (0, .ref (ad 22)), (1, .int a1)]) hx hb dX4_blockHead_9 rfl hl (by decide) rfl (fun ls hl => ?_)
  refine lv_aload_n hx hb dX4_blockHead_10 rfl (lv_at hl 2 rfl) ?_
  refine lv_iload_n hx hb dX4_blockHead_11 rfl (lv_at hl 1 rfl) ?_
  obtain ⟨r1, hcr1, hM⟩ := ob_use hM
  refine cl_V (As := [.int o_this.2.1]) (rest := []) (wP cI ad r1 ++ wK cI ad o_tokens ++ wT cI ad o_tree) [] ⟨hx, hb, hml, hown, hts⟩ (c_Parser_take l D cI sd ad o_this o_tokens o_this.2.1 r1 hcr1) (cwV2 hts q614 mvX4_take rfl rfl ⟨(Nat.le_of_ble_eq_true rfl), (Nat.le_of_ble_eq_true rfl)⟩) hK hE hA hP hD hS 0 (T := TX4) (N := 12) (ci := 4) rfl rfl [0, 1, 2, 3, 4] rfl (by decide) rfl rfl rfl rfl rfl rfl hl.1 (Nat.le_of_ble_eq_true rfl) dX4_blockHead_12 ⟨Nat.zero_le _, Nat.zero_le _⟩ (fun H locs hP hD hS => ?_)
  refine lv_aload_n hx hb dX4_blockHead_15 rfl (lv_at hl 2 rfl) ?_
  refine va_get (D := D) (ci := 4) (v := .ref (ad 14)) (C := RX4) (T := TX4) (N := 12) hx hb hts layX4 hown hK hP 0 rfl rfl 1 (by decide) (hts _ (inA q398)) (fun _ h9 => h9) rfl dX4_blockHead_16 ?_
  refine lv_iload_n hx hb dX4_blockHead_19 rfl (lv_at hl 3 rfl) ?_
  refine lv_iload_n hx hb dX4_blockHead_20 rfl (lv_at hl 1 rfl) ?_
  obtain ⟨r2, hcr2, hM⟩ := ob_use hM
  refine cl_S (As := [.int o_this.2.1]) (rest := [.int a1, .ref (ad 14)]) (wP cI ad r1 ++ wK cI ad o_tokens ++ wT cI ad o_tree) (.int r2 :: [.int a1, .ref (ad 14)]) ⟨hx, hb, hml, hown, hts⟩ (c_Parser_kindOfBlock l D cI sd ad o_this.2.1 r2 hcr2) (cwS2 hts q634 mvX4_kindOfBlock rfl rfl ⟨(Nat.le_of_ble_eq_true rfl), (Nat.le_of_ble_eq_true rfl)⟩) hK hE hA hP hD hS [] rfl (by decide) rfl rfl rfl rfl rfl rfl hl.1 (Nat.le_of_ble_eq_true rfl) dX4_blockHead_21 ⟨Nat.zero_le _, Nat.zero_le _⟩ (fun H locs hP hD hS => ?_)
  refine lv_iload_n hx hb dX4_blockHead_24 rfl (lv_at hl 0 rfl) ?_
  refine lv_aload_n hx hb dX4_blockHead_25 rfl (lv_at hl 2 rfl) ?_
  obtain ⟨r3, hcr3, hM⟩ := ob_use hM
  refine cl_V (As := []) (rest := [.int o_this.2.2.1, .int r2, .int a1, .ref (ad 14)]) (wP cI ad r3.2 ++ wK cI ad o_tokens ++ wT cI ad o_tree) (.int r3.1 :: [.int o_this.2.2.1, .int r2, .int a1, .ref (ad 14)]) ⟨hx, hb, hml, hown, hts⟩ (c_Parser_takeName l D cI sd ad r1 o_tokens r3 hcr3) (cwV2 hts q637 mvX4_takeName rfl rfl ⟨(Nat.le_of_ble_eq_true rfl), (Nat.le_of_ble_eq_true rfl)⟩) hK hE hA hP hD hS 0 (T := TX4) (N := 12) (ci := 4) rfl rfl [0, 1, 2, 3, 4] rfl (by decide) rfl rfl rfl rfl rfl rfl hl.1 (Nat.le_of_ble_eq_true rfl) dX4_blockHead_26 ⟨Nat.zero_le _, Nat.zero_le _⟩ (fun H locs hP hD hS => ?_)
  obtain ⟨r4, hcr4, hM⟩ := ob_use hM
  refine cl_V (As := [.int a1, .int r2, .int o_this.2.2.1, .int r3.1]) (rest := []) (wP cI ad r3.2 ++ wK cI ad o_tokens ++ wT cI ad r4.2) (.int r4.1 :: []) ⟨hx, hb, hml, hown, hts⟩ (c_Tree_add l D cI sd ad o_tree a1 r2 o_this.2.2.1 r3.1 r4 hcr4) (cwV2 hts q622 mvX3_add rfl rfl ⟨(Nat.le_of_ble_eq_true rfl), (Nat.le_of_ble_eq_true rfl)⟩) hK hE hA hP hD hS 5 (T := TX3) (N := 8) (ci := 3) rfl rfl [5, 6, 7, 8, 9, 10, 11, 12] rfl (by decide) rfl rfl rfl rfl rfl rfl hl.1 (Nat.le_of_ble_eq_true rfl) dX4_blockHead_29 ⟨Nat.zero_le _, Nat.zero_le _⟩ (fun H locs hP hD hS => ?_)
  refine lv_istore (lv' := [(4, .int r4.1), (3, .int o_this.2.2.1), (2, .int o_this.2.1), (0, .ref (ad 22)), (1, .int a1)]) hx hb dX4_blockHead_32 hl (by decide) rfl (fun ls hl => ?_)
  refine lv_iload_n hx hb dX4_blockHead_34 rfl (lv_at hl 2 rfl) ?_
  refine lv_sipush (v := 256) hx hb dX4_blockHead_35 (by decide) ?_
  refine lv_icmp_ne (tgt := 53) hx hb dX4_blockHead_38 (by decide) (fun c5 => ?_) (fun c5 => ?_)
  · replace hM := if_f c5 hM
    refine lv_iload hx hb dX4_blockHead_53 (lv_at hl 0 rfl) ?_
    cases hM
    exact rt_i hx hb hr hlk hP hD hS rfl dX4_blockHead_55
  · replace hM := if_t c5 hM
    refine lv_aload_n hx hb dX4_blockHead_41 rfl (lv_at hl 3 rfl) ?_
    refine lv_bipush (v := 58) hx hb dX4_blockHead_42 (by decide) ?_
    obtain ⟨r6, hcr6, hM⟩ := ob_use hM
    refine cl_V (As := [.int 58]) (rest := []) (wP cI ad r6 ++ wK cI ad o_tokens ++ wT cI ad r4.2) [] ⟨hx, hb, hml, hown, hts⟩ (c_Parser_take l D cI sd ad r3.2 o_tokens 58 r6 hcr6) (cwV2 hts q614 mvX4_take rfl rfl ⟨(Nat.le_of_ble_eq_true rfl), (Nat.le_of_ble_eq_true rfl)⟩) hK hE hA hP hD hS 0 (T := TX4) (N := 12) (ci := 4) rfl rfl [0, 1, 2, 3, 4] rfl (by decide) rfl rfl rfl rfl rfl rfl hl.1 (Nat.le_of_ble_eq_true rfl) dX4_blockHead_44 ⟨Nat.zero_le _, Nat.zero_le _⟩ (fun H locs hP hD hS => ?_)
    refine lv_aload_n hx hb dX4_blockHead_47 rfl (lv_at hl 3 rfl) ?_
    refine lv_iload hx hb dX4_blockHead_48 (lv_at hl 0 rfl) ?_
    obtain ⟨r7, hcr7, hM⟩ := ob_use hM
    refine cl_V (As := [.int r4.1]) (rest := []) (wP cI ad r7.1 ++ wK cI ad o_tokens ++ wT cI ad r7.2) [] ⟨hx, hb, hml, hown, hts⟩ (c_Parser_simpleType l D cI sd ad r6 o_tokens r4.2 r4.1 r7 hcr7) (cwV2 hts q641 mvX4_simpleType rfl rfl ⟨(Nat.le_of_ble_eq_true rfl), (Nat.le_of_ble_eq_true rfl)⟩) hK hE hA hP hD hS 0 (T := TX4) (N := 12) (ci := 4) rfl rfl [0, 1, 2, 3, 4, 5, 6, 7, 8, 9, 10, 11, 12] rfl (by decide) rfl rfl rfl rfl rfl rfl hl.1 (Nat.le_of_ble_eq_true rfl) dX4_blockHead_50 ⟨Nat.zero_le _, Nat.zero_le _⟩ (fun H locs hP hD hS => ?_)
    refine lv_iload hx hb dX4_blockHead_53 (lv_at hl 0 rfl) ?_
    cases hM
    exact rt_i hx hb hr hlk hP hD hS rfl dX4_blockHead_55

set_option maxHeartbeats 4000000 in
set_option maxRecDepth 100000 in
theorem c_Parser_mayOpen (l : Launch) (D : va_G) (cI : ClassId) (sd : Nat → Nat) (ad : Nat → Nat) (o_this : S_Parser) (res : Int32 × S_Parser) (hM : f_Parser_mayOpen o_this = some res) : Ctr l D cI sd yX4_mayOpen (wsM yX4_mayOpen cX4_mayOpen 1 (Option.some Jvm.ClassFile.FieldType.boolean)) { frames := 0, cells := 0, slots := 0, locals := 0 } [.ref (ad 22)] (wP cI ad o_this) (wP cI ad res.2) (some (.int res.1)) := by
  refine Ctr.of (cc := cX4_mayOpen) (maxL := 1) (own := RX4) (by decide +kernel) rfl rfl (Nat.le_of_ble_eq_true rfl) ?_
  intro p e s m below meth c A ls hx hb hr hml hown hts hlk hK hE hA hP hD hS hl
  have hl : lv_has ls 1 [(0, .ref (ad 22))] := hl
  unfold f_Parser_mayOpen at hM
  refine lv_aload_n hx hb dX4_mayOpen_0 rfl (lv_at hl 0 rfl) ?_
  refine va_get (D := D) (ci := 4) (v := .int o_this.2.2.2.2.2.2.1) (C := RX4) (T := TX4) (N := 12) hx hb hts layX4 hown hK hP 0 rfl rfl 8 (by decide) (hts _ (inA q405)) (fun _ h9 => h9) rfl dX4_mayOpen_1 ?_
  refine lv_aload_n hx hb dX4_mayOpen_4 rfl (lv_at hl 0 rfl) ?_
  refine va_get (D := D) (ci := 4) (v := .int o_this.2.2.2.2.2.1) (C := RX4) (T := TX4) (N := 12) hx hb hts layX4 hown hK hP 0 rfl rfl 7 (by decide) (hts _ (inA q404)) (fun _ h9 => h9) rfl dX4_mayOpen_5 ?_
  refine lv_iadd hx hb dX4_mayOpen_8 ?_
  refine lv_bipush (v := 60) hx hb dX4_mayOpen_9 (by decide) ?_
  refine lv_icmp_ge (tgt := 16) hx hb dX4_mayOpen_11 (by decide) (fun c1 => ?_) (fun c1 => ?_)
  · replace hM := if_t c1 hM
    refine lv_aload_n hx hb dX4_mayOpen_16 rfl (lv_at hl 0 rfl) ?_
    refine lv_iconst (v := 1) hx hb dX4_mayOpen_17 (by decide) ?_
    refine va_put (D := D) (ci := 4) (v := .int 1) (ty := .boolean) (C := RX4) (T := TX4) (N := 12) hx hb hts layX4 tyX4 tyX4_ok nmX4 hown hK hP hD hS 0 rfl rfl 9 (by decide) (hts _ (inA q406)) (fun _ h9 => h9) rfl (by decide +kernel) (by decide) (by decide) (Nat.le_of_ble_eq_true rfl) dX4_mayOpen_18 (fun H locs hP hD hS => ?_)
    have hP : va_P D vwCl (wP cI ad (o_this.1, o_this.2.1, o_this.2.2.1, o_this.2.2.2.1, o_this.2.2.2.2.1, o_this.2.2.2.2.2.1, o_this.2.2.2.2.2.2.1, 1, o_this.2.2.2.2.2.2.2.2)) H := hP
    have hD : va_D A (wP cI ad (o_this.1, o_this.2.1, o_this.2.2.1, o_this.2.2.2.1, o_this.2.2.2.2.1, o_this.2.2.2.2.2.1, o_this.2.2.2.2.2.2.1, 1, o_this.2.2.2.2.2.2.2.2)) := hD
    refine lv_aload_n hx hb dX4_mayOpen_21 rfl (lv_at hl 0 rfl) ?_
    refine lv_bipush (v := 6) hx hb dX4_mayOpen_22 (by decide) ?_
    refine va_put (D := D) (ci := 4) (v := .int 6) (ty := .int) (C := RX4) (T := TX4) (N := 12) hx hb hts layX4 tyX4 tyX4_ok nmX4 hown hK hP hD hS 0 rfl rfl 3 (by decide) (hts _ (inA q400)) (fun _ h9 => h9) rfl (by decide +kernel) rfl rfl (Nat.le_of_ble_eq_true rfl) dX4_mayOpen_24 (fun H locs hP hD hS => ?_)
    have hP : va_P D vwCl (wP cI ad (o_this.1, 6, o_this.2.2.1, o_this.2.2.2.1, o_this.2.2.2.2.1, o_this.2.2.2.2.2.1, o_this.2.2.2.2.2.2.1, 1, o_this.2.2.2.2.2.2.2.2)) H := hP
    have hD : va_D A (wP cI ad (o_this.1, 6, o_this.2.2.1, o_this.2.2.2.1, o_this.2.2.2.2.1, o_this.2.2.2.2.2.1, o_this.2.2.2.2.2.2.1, 1, o_this.2.2.2.2.2.2.2.2)) := hD
    refine lv_iconst (v := 0) hx hb dX4_mayOpen_27 (by decide) ?_
    cases hM
    exact rt_z hx hb hr hlk (by decide) hP hD hS rfl dX4_mayOpen_28
  · replace hM := if_f c1 hM
    refine lv_iconst (v := 1) hx hb dX4_mayOpen_14 (by decide) ?_
    cases hM
    exact rt_z hx hb hr hlk (by decide) hP hD hS rfl dX4_mayOpen_15

set_option maxHeartbeats 4000000 in
set_option maxRecDepth 100000 in
theorem c_Parser_expression_o (l : Launch) (D : va_G) (cI : ClassId) (sd : Nat → Nat) (ad : Nat → Nat) (fr lo : Nat) (f_operand : S_Parser → S_Tokens → S_Tree → Int32 → Option (S_Parser × S_Tree)) (f_expression : S_Parser → S_Tokens → S_Tree → Int32 → Int32 → Option (S_Parser × S_Tree)) (H_operand : ∀ (o_this : S_Parser) (o_tokens : S_Tokens) (o_tree : S_Tree) (a1 : Int32) (res : S_Parser × S_Tree), f_operand o_this o_tokens o_tree a1 = some res → Ctr l D cI sd yX4_operand (wsM yX4_operand cX4_operand 3 (Option.none : Option Jvm.ClassFile.FieldType)) { frames := fr, cells := 0, slots := 0, locals := lo } [.ref (ad 22), .int a1] (wP cI ad o_this ++ wK cI ad o_tokens ++ wT cI ad o_tree) (wP cI ad res.1 ++ wK cI ad o_tokens ++ wT cI ad res.2) none) (H_expression : ∀ (o_this : S_Parser) (o_tokens : S_Tokens) (o_tree : S_Tree) (a1 : Int32) (a2 : Int32) (res : S_Parser × S_Tree), f_expression o_this o_tokens o_tree a1 a2 = some res → Ctr l D cI sd yX4_expression (wsM yX4_expression cX4_expression 7 (Option.none : Option Jvm.ClassFile.FieldType)) { frames := fr, cells := 0, slots := 0, locals := lo } [.ref (ad 22), .int a1, .int a2] (wP cI ad o_this ++ wK cI ad o_tokens ++ wT cI ad o_tree) (wP cI ad res.1 ++ wK cI ad o_tokens ++ wT cI ad res.2) none) (o_this : S_Parser) (o_tokens : S_Tokens) (o_tree : S_Tree) (a1 : Int32) (a2 : Int32) (res : S_Parser × S_Tree) (hM : f_Parser_expression_o f_operand f_expression o_this o_tokens o_tree a1 a2 = some res) : Ctr l D cI sd yX4_expression (wsM yX4_expression cX4_expression 7 (Option.none : Option Jvm.ClassFile.FieldType)) { frames := max (fr + 2) 3, cells := 0, slots := 0, locals := max (lo + 53) 89 } [.ref (ad 22), .int a1, .int a2] (wP cI ad o_this ++ wK cI ad o_tokens ++ wT cI ad o_tree) (wP cI ad res.1 ++ wK cI ad o_tokens ++ wT cI ad res.2) none := by
  refine Ctr.of (cc := cX4_expression) (maxL := 7) (own := RX4) (by decide +kernel) rfl rfl (Nat.le_of_ble_eq_true rfl) ?_
  intro p e s m below meth c A ls hx hb hr hml hown hts hlk hK hE hA hP hD hS hl
  have hl : lv_has ls 7 [(0, .ref (ad 22)), (1, .int a1), (2, .int a2)] := hl
  unfold f_Parser_expression_o at hM
  refine lv_aload_n hx hb dX4_expression_0 rfl (lv_at hl 0 rfl) ?_
  refine va_get (D := D) (ci := 4) (v := .ref (ad 14)) (C := RX4) (T := TX4) (N := 12) hx hb hts layX4 hown hK hP 0 rfl rfl 1 (by decide) (hts _ (inA q398)) (fun _ h9 => h9) rfl dX4_expression_1 ?_
  refine va_getN (D := D) (ci := 3) (v := .int o_tree.1) (C := RX3) (T := TX3) (N := 8) hx hb hts layX3 hown hK hP 5 rfl rfl 7 (by decide) (nfE10 hE) (fun _ h9 => h9) rfl dX4_expression_4 ?_
  refine lv_istore_n (lv' := [(3, .int o_tree.1), (0, .ref (ad 22)), (1, .int a1), (2, .int a2)]) hx hb dX4_expression_7 rfl hl (by decide) rfl (fun ls hl => ?_)
  refine lv_aload_n hx hb dX4_expression_8 rfl (lv_at hl 1 rfl) ?_
  refine lv_iload_n hx hb dX4_expression_9 rfl (lv_at hl 2 rfl) ?_
  obtain ⟨r1, hcr1, hM⟩ := ob_use hM
  refine cl_V (As := [.int a1]) (rest := []) (wP cI ad r1.1 ++ wK cI ad o_tokens ++ wT cI ad r1.2) [] ⟨hx, hb, hml, hown, hts⟩ (H_operand o_this o_tokens o_tree a1 r1 hcr1) (cwV2 hts q731 mvX4_operand rfl rfl ⟨mxF0 (by decide), mxL0 (by decide)⟩) hK hE hA hP hD hS 0 (T := TX4) (N := 12) (ci := 4) rfl rfl [0, 1, 2, 3, 4, 5, 6, 7, 8, 9, 10, 11, 12] rfl (by decide) rfl rfl rfl rfl rfl rfl hl.1 (Nat.le_of_ble_eq_true rfl) dX4_expression_10 ⟨Nat.zero_le _, Nat.zero_le _⟩ (fun H locs hP hD hS => ?_)
  refine lv_iconst (v := 0) hx hb dX4_expression_13 (by decide) ?_
  refine lv_istore (lv' := [(4, .int 0), (3, .int o_tree.1), (0, .ref (ad 22)), (1, .int a1), (2, .int a2)]) hx hb dX4_expression_14 hl (by decide) rfl (fun ls hl => ?_)
  have lp_L16 : ∀ (w3_L16 : Int32) (w2_L16 : Int32) (n : Nat) (v4_L16 : Int32) (o_this_L16 : S_Parser) (o_tree_L16 : S_Tree) (H : Heap) (locs : List Loc) (ls : Array Slot), f_Parser_expression_o_L16 f_expression o_tokens w3_L16 w2_L16 n v4_L16 o_this_L16 o_tree_L16 = some res → va_P D vwCl (wP cI ad o_this_L16 ++ wK cI ad o_tokens ++ wT cI ad o_tree_L16) H → va_D A (wP cI ad o_this_L16 ++ wK cI ad o_tokens ++ wT cI ad o_tree_L16) → va_S A s.heap H locs → lv_has ls 7 [(4, .int v4_L16), (3, .int w3_L16), (0, .ref (ad 22)), (2, .int w2_L16)] → W p l e { frames := max (fr + 2) 3, cells := 0, slots := 0, locals := max (lo + 53) 89 } s m [.ref (ad 22), .int a1, .int a2].toArray below meth c H locs 0 0 (MQ below (CQ D A (wP cI ad res.1 ++ wK cI ad o_tokens ++ wT cI ad res.2) none) [.ref (ad 22), .int a1, .int a2].toArray s 0 0 A) (F0 m 16 ls []) := by
    intro w3_L16 w2_L16 n
    induction n with
    | zero => intro v4_L16 o_this_L16 o_tree_L16 H locs ls hM; exact absurd (show none = some _ from hM) (by simp)
    | succ n ih_L16 =>
      intro v4_L16 o_this_L16 o_tree_L16 H locs ls hM hP hD hS hl
      rw [f_Parser_expression_o_L16] at hM
      refine lv_iload hx hb dX4_expression_16 (lv_at hl 0 rfl) ?_
      refine lv_sipush (v := 8192) hx hb dX4_expression_18 (by decide) ?_
      refine lv_icmp_ge (tgt := 103) hx hb dX4_expression_21 (by decide) (fun c1261 => ?_) (fun c1261 => ?_)
      · replace hM := if_t c1261 hM
        cases hM
        exact rt_v hx hb hr hlk hP hD hS rfl dX4_expression_103
      · replace hM := if_f c1261 hM
        refine lv_aload_n hx hb dX4_expression_24 rfl (lv_at hl 2 rfl) ?_
        refine va_get (D := D) (ci := 4) (v := .int o_this_L16.2.1) (C := RX4) (T := TX4) (N := 12) hx hb hts layX4 hown hK hP 0 rfl rfl 3 (by decide) (hts _ (inA q400)) (fun _ h9 => h9) rfl dX4_expression_25 ?_
        obtain ⟨r1262, hcr1262, hM⟩ := ob_use hM
        refine cl_S (As := [.int o_this_L16.2.1]) (rest := []) (wP cI ad o_this_L16 ++ wK cI ad o_tokens ++ wT cI ad o_tree_L16) (.int r1262 :: []) ⟨hx, hb, hml, hown, hts⟩ (c_Sign_operation l D cI sd ad o_this_L16.2.1 r1262 hcr1262) (cwS2 hts q747 mvX7_operation rfl rfl ⟨(mxN (Nat.le_of_ble_eq_true rfl)), (mxN (Nat.le_of_ble_eq_true rfl))⟩) hK hE hA hP hD hS [] rfl (by decide) rfl rfl rfl rfl rfl rfl hl.1 (Nat.le_of_ble_eq_true rfl) dX4_expression_28 ⟨Nat.zero_le _, Nat.zero_le _⟩ (fun H locs hP hD hS => ?_)
        refine lv_istore (lv' := [(5, .int r1262), (4, .int v4_L16), (3, .int w3_L16), (0, .ref (ad 22)), (2, .int w2_L16)]) hx hb dX4_expression_31 hl (by decide) rfl (fun ls hl => ?_)
        refine lv_iload hx hb dX4_expression_33 (lv_at hl 0 rfl) ?_
        obtain ⟨r1263, hcr1263, hM⟩ := ob_use hM
        refine cl_S (As := [.int r1262]) (rest := []) (wP cI ad o_this_L16 ++ wK cI ad o_tokens ++ wT cI ad o_tree_L16) (.int r1263 :: []) ⟨hx, hb, hml, hown, hts⟩ (c_Sign_binding l D cI sd ad r1262 r1263 hcr1263) (cwS2 hts q750 mvX7_binding rfl rfl ⟨(mxN (Nat.le_of_ble_eq_true rfl)), (mxN (Nat.le_of_ble_eq_true rfl))⟩) hK hE hA hP hD hS [] rfl (by decide) rfl rfl rfl rfl rfl rfl hl.1 (Nat.le_of_ble_eq_true rfl) dX4_expression_35 ⟨Nat.zero_le _, Nat.zero_le _⟩ (fun H locs hP hD hS => ?_)
        refine lv_istore (lv' := [(6, .int r1263), (5, .int r1262), (4, .int v4_L16), (3, .int w3_L16), (0, .ref (ad 22)), (2, .int w2_L16)]) hx hb dX4_expression_38 hl (by decide) rfl (fun ls hl => ?_)
        refine lv_iload hx hb dX4_expression_40 (lv_at hl 0 rfl) ?_
        refine lv_iload_n hx hb dX4_expression_42 rfl (lv_at hl 5 rfl) ?_
        refine lv_icmp_lt (tgt := 53) hx hb dX4_expression_43 (by decide) (fun c1264 => ?_) (fun c1264 => ?_)
        · replace hM := if_t c1264 hM
          cases hM
          exact rt_v hx hb hr hlk hP hD hS rfl dX4_expression_53
        · replace hM := if_f c1264 hM
          refine lv_aload_n hx hb dX4_expression_46 rfl (lv_at hl 4 rfl) ?_
          obtain ⟨r1265, hcr1265, hM⟩ := ob_use hM
          refine cl_V (As := []) (rest := []) (wP cI ad r1265.2 ++ wK cI ad o_tokens ++ wT cI ad o_tree_L16) (.int r1265.1 :: []) ⟨hx, hb, hml, hown, hts⟩ (c_Parser_mayOpen l D cI sd ad o_this_L16 r1265 hcr1265) (cwV2 hts q719 mvX4_mayOpen rfl rfl ⟨(mxN (Nat.le_of_ble_eq_true rfl)), (mxN (Nat.le_of_ble_eq_true rfl))⟩) hK hE hA hP hD hS 0 (T := TX4) (N := 12) (ci := 4) rfl rfl [0] rfl (by decide) rfl rfl rfl rfl rfl rfl hl.1 (Nat.le_of_ble_eq_true rfl) dX4_expression_47 ⟨Nat.zero_le _, Nat.zero_le _⟩ (fun H locs hP hD hS => ?_)
          refine lv_if_ne (tgt := 54) hx hb dX4_expression_50 (by decide) (fun c1266 => ?_) (fun c1266 => ?_)
          · replace hM := if_f c1266 hM
            refine lv_aload_n hx hb dX4_expression_54 rfl (lv_at hl 4 rfl) ?_
            refine va_get (D := D) (ci := 4) (v := .ref (ad 14)) (C := RX4) (T := TX4) (N := 12) hx hb hts layX4 hown hK hP 0 rfl rfl 1 (by decide) (hts _ (inA q398)) (fun _ h9 => h9) rfl dX4_expression_55 ?_
            refine lv_iload_n hx hb dX4_expression_58 rfl (lv_at hl 3 rfl) ?_
            refine lv_bipush (v := 35) hx hb dX4_expression_59 (by decide) ?_
            refine lv_aload_n hx hb dX4_expression_61 rfl (lv_at hl 4 rfl) ?_
            refine va_get (D := D) (ci := 4) (v := .int r1265.2.2.2.1) (C := RX4) (T := TX4) (N := 12) hx hb hts layX4 hown hK hP 0 rfl rfl 4 (by decide) (hts _ (inA q401)) (fun _ h9 => h9) rfl dX4_expression_62 ?_
            refine lv_iload hx hb dX4_expression_65 (lv_at hl 1 rfl) ?_
            obtain ⟨r1267, hcr1267, hM⟩ := ob_use hM
            refine cl_V (As := [.int w3_L16, .int 35, .int r1265.2.2.2.1, .int r1262]) (rest := []) (wP cI ad r1265.2 ++ wK cI ad o_tokens ++ wT cI ad r1267) [] ⟨hx, hb, hml, hown, hts⟩ (c_Tree_wrap l D cI sd ad o_tree_L16 w3_L16 35 r1265.2.2.2.1 r1262 r1267 hcr1267) (cwV2 hts q755 mvX3_wrap rfl rfl ⟨(mxN (Nat.le_of_ble_eq_true rfl)), (mxN (Nat.le_of_ble_eq_true rfl))⟩) hK hE hA hP hD hS 5 (T := TX3) (N := 8) (ci := 3) rfl rfl [5, 6, 7, 8, 9, 10, 11, 12] rfl (by decide) rfl rfl rfl rfl rfl rfl hl.1 (Nat.le_of_ble_eq_true rfl) dX4_expression_67 ⟨Nat.zero_le _, Nat.zero_le _⟩ (fun H locs hP hD hS => ?_)
            refine lv_aload_n hx hb dX4_expression_70 rfl (lv_at hl 4 rfl) ?_
            refine lv_dup hx hb dX4_expression_71 rfl ?_
            refine va_get (D := D) (ci := 4) (v := .int r1265.2.2.2.2.2.2.1) (C := RX4) (T := TX4) (N := 12) hx hb hts layX4 hown hK hP 0 rfl rfl 7 (by decide) (hts _ (inA q404)) (fun _ h9 => h9) rfl dX4_expression_72 ?_
            refine lv_iconst (v := 1) hx hb dX4_expression_75 (by decide) ?_
            refine lv_iadd hx hb dX4_expression_76 ?_
            refine va_put (D := D) (ci := 4) (v := .int (r1265.2.2.2.2.2.2.1 + 1)) (ty := .int) (C := RX4) (T := TX4) (N := 12) hx hb hts layX4 tyX4 tyX4_ok nmX4 hown hK hP hD hS 0 rfl rfl 7 (by decide) (hts _ (inA q404)) (fun _ h9 => h9) rfl (by decide +kernel) rfl rfl (Nat.le_of_ble_eq_true rfl) dX4_expression_77 (fun H locs hP hD hS => ?_)
            have hP : va_P D vwCl (wP cI ad (r1265.2.1, r1265.2.2.1, r1265.2.2.2.1, r1265.2.2.2.2.1, r1265.2.2.2.2.2.1, r1265.2.2.2.2.2.2.1 + 1, r1265.2.2.2.2.2.2.2) ++ wK cI ad o_tokens ++ wT cI ad r1267) H := hP
            have hD : va_D A (wP cI ad (r1265.2.1, r1265.2.2.1, r1265.2.2.2.1, r1265.2.2.2.2.1, r1265.2.2.2.2.2.1, r1265.2.2.2.2.2.2.1 + 1, r1265.2.2.2.2.2.2.2) ++ wK cI ad o_tokens ++ wT cI ad r1267) := hD
            refine lv_aload_n hx hb dX4_expression_80 rfl (lv_at hl 4 rfl) ?_
            refine lv_aload_n hx hb dX4_expression_81 rfl (lv_at hl 4 rfl) ?_
            refine va_get (D := D) (ci := 4) (v := .int r1265.2.2.1) (C := RX4) (T := TX4) (N := 12) hx hb hts layX4 hown hK hP 0 rfl rfl 3 (by decide) (hts _ (inA q400)) (fun _ h9 => h9) rfl dX4_expression_82 ?_
            obtain ⟨r1268, hcr1268, hM⟩ := ob_use hM
            refine cl_V (As := [.int r1265.2.2.1]) (rest := []) (wP cI ad r1268 ++ wK cI ad o_tokens ++ wT cI ad r1267) [] ⟨hx, hb, hml, hown, hts⟩ (c_Parser_take l D cI sd ad (r1265.2.1, r1265.2.2.1, r1265.2.2.2.1, r1265.2.2.2.2.1, r1265.2.2.2.2.2.1, r1265.2.2.2.2.2.2.1 + 1, r1265.2.2.2.2.2.2.2) o_tokens r1265.2.2.1 r1268 hcr1268) (cwV2 hts q614 mvX4_take rfl rfl ⟨(mxN (Nat.le_of_ble_eq_true rfl)), (mxN (Nat.le_of_ble_eq_true rfl))⟩) hK hE hA hP hD hS 0 (T := TX4) (N := 12) (ci := 4) rfl rfl [0, 1, 2, 3, 4] rfl (by decide) rfl rfl rfl rfl rfl rfl hl.1 (Nat.le_of_ble_eq_true rfl) dX4_expression_85 ⟨Nat.zero_le _, Nat.zero_le _⟩ (fun H locs hP hD hS => ?_)
            refine lv_aload_n hx hb dX4_expression_88 rfl (lv_at hl 4 rfl) ?_
            refine lv_iload_n hx hb dX4_expression_89 rfl (lv_at hl 3 rfl) ?_
            refine lv_iload hx hb dX4_expression_90 (lv_at hl 0 rfl) ?_
            refine lv_iconst (v := 1) hx hb dX4_expression_92 (by decide) ?_
            refine lv_iadd hx hb dX4_expression_93 ?_
            obtain ⟨r1269, hcr1269, hM⟩ := ob_use hM
            refine cl_V (As := [.int w3_L16, .int (r1263 + 1)]) (rest := []) (wP cI ad r1269.1 ++ wK cI ad o_tokens ++ wT cI ad r1269.2) [] ⟨hx, hb, hml, hown, hts⟩ (H_expression r1268 o_tokens r1267 w3_L16 (r1263 + 1) r1269 hcr1269) (cwV2 hts q727 mvX4_expression rfl rfl ⟨mxF0 (by decide), mxL0 (by decide)⟩) hK hE hA hP hD hS 0 (T := TX4) (N := 12) (ci := 4) rfl rfl [0, 1, 2, 3, 4, 5, 6, 7, 8, 9, 10, 11, 12] rfl (by decide) rfl rfl rfl rfl rfl rfl hl.1 (Nat.le_of_ble_eq_true rfl) dX4_expression_94 ⟨Nat.zero_le _, Nat.zero_le _⟩ (fun H locs hP hD hS => ?_)
            obtain ⟨x1270, ex1270⟩ : ∃ y : Int32, y = v4_L16 + 1 := ⟨_, rfl⟩
            replace hM := nm_use ex1270 hM
            refine lv_iinc (v := x1270) (lv' := [(4, .int x1270), (6, .int r1263), (5, .int r1262), (3, .int w3_L16), (0, .ref (ad 22)), (2, .int w2_L16)]) hx hb dX4_expression_97 hl (k := 2) rfl (by rw [ex1270]; rfl) (by decide) rfl (fun ls hl => ?_)
            refine lv_goto (tgt := 16) hx hb dX4_expression_100 (by decide) ?_
            exact ih_L16 x1270 r1269.1 r1269.2 _ _ _ hM hP hD hS (lv_sub hl [0, 3, 4, 5] rfl)
          · replace hM := if_t c1266 hM
            cases hM
            exact rt_v hx hb hr hlk hP hD hS rfl dX4_expression_53
  exact lp_L16 o_tree.1 a2 FU 0 r1.1 r1.2 _ _ _ hM hP hD hS (lv_sub hl [0, 1, 2, 4] rfl)

set_option maxHeartbeats 4000000 in
set_option maxRecDepth 100000 in
theorem c_Parser_literal (l : Launch) (D : va_G) (cI : ClassId) (sd : Nat → Nat) (ad : Nat → Nat) (o_this : S_Parser) (o_tokens : S_Tokens) (o_tree : S_Tree) (a1 : Int32) (res : S_Parser × S_Tree) (hM : f_Parser_literal o_this o_tokens o_tree a1 = some res) : Ctr l D cI sd yX4_literal (wsM yX4_literal cX4_literal 2 (Option.none : Option Jvm.ClassFile.FieldType)) { frames := 1, cells := 0, slots := 0, locals := 25 } [.ref (ad 22), .int a1] (wP cI ad o_this ++ wK cI ad o_tokens ++ wT cI ad o_tree) (wP cI ad res.1 ++ wK cI ad o_tokens ++ wT cI ad res.2) none := by
  refine Ctr.of (cc := cX4_literal) (maxL := 2) (own := RX4) (by decide +kernel) rfl rfl (Nat.le_of_ble_eq_true rfl) ?_
  intro p e s m below meth c A ls hx hb hr hml hown hts hlk hK hE hA hP hD hS hl
  have hl : lv_has ls 2 [(0, .ref (ad 22)), (1, .int a1)] := hl
  unfold f_Parser_literal at hM
  refine lv_aload_n hx hb dX4_literal_0 rfl (lv_at hl 0 rfl) ?_
  refine va_get (D := D) (ci := 4) (v := .int o_this.2.1) (C := RX4) (T := TX4) (N := 12) hx hb hts layX4 hown hK hP 0 rfl rfl 3 (by decide) (hts _ (inA q400)) (fun _ h9 => h9) rfl dX4_literal_1 ?_
  refine lv_iconst (v := 2) hx hb dX4_literal_4 (by decide) ?_
  refine lv_icmp_ne (tgt := 35) hx hb dX4_literal_5 (by decide) (fun c1 => ?_) (fun c1 => ?_)
  · replace hM := if_f c1 hM
    refine lv_aload_n hx hb dX4_literal_35 rfl (lv_at hl 0 rfl) ?_
    refine va_get (D := D) (ci := 4) (v := .int o_this.2.1) (C := RX4) (T := TX4) (N := 12) hx hb hts layX4 hown hK hP 0 rfl rfl 3 (by decide) (hts _ (inA q400)) (fun _ h9 => h9) rfl dX4_literal_36 ?_
    refine lv_sipush (v := 291) hx hb dX4_literal_39 (by decide) ?_
    refine lv_icmp_eq (tgt := 55) hx hb dX4_literal_42 (by decide) (fun c2 => ?_) (fun c2 => ?_)
    · replace hM := if_t c2 hM
      refine lv_aload_n hx hb dX4_literal_55 rfl (lv_at hl 0 rfl) ?_
      refine va_get (D := D) (ci := 4) (v := .ref (ad 14)) (C := RX4) (T := TX4) (N := 12) hx hb hts layX4 hown hK hP 0 rfl rfl 1 (by decide) (hts _ (inA q398)) (fun _ h9 => h9) rfl dX4_literal_56 ?_
      refine lv_iload_n hx hb dX4_literal_59 rfl (lv_at hl 1 rfl) ?_
      refine lv_bipush (v := 31) hx hb dX4_literal_60 (by decide) ?_
      refine lv_aload_n hx hb dX4_literal_62 rfl (lv_at hl 0 rfl) ?_
      refine va_get (D := D) (ci := 4) (v := .int o_this.2.2.1) (C := RX4) (T := TX4) (N := 12) hx hb hts layX4 hown hK hP 0 rfl rfl 4 (by decide) (hts _ (inA q401)) (fun _ h9 => h9) rfl dX4_literal_63 ?_
      refine lv_aload_n hx hb dX4_literal_66 rfl (lv_at hl 0 rfl) ?_
      refine va_get (D := D) (ci := 4) (v := .int o_this.2.1) (C := RX4) (T := TX4) (N := 12) hx hb hts layX4 hown hK hP 0 rfl rfl 3 (by decide) (hts _ (inA q400)) (fun _ h9 => h9) rfl dX4_literal_67 ?_
      refine lv_sipush (v := 291) hx hb dX4_literal_70 (by decide) ?_
      refine lv_icmp_ne (tgt := 80) hx hb dX4_literal_73 (by decide) (fun c3 => ?_) (fun c3 => ?_)
      · replace hM := if_f c3 hM
        refine lv_iconst (v := 0) hx hb dX4_literal_80 (by decide) ?_
        obtain ⟨r4, hcr4, hM⟩ := ob_use hM
        refine cl_V (As := [.int a1, .int 31, .int o_this.2.2.1, .int 0]) (rest := []) (wP cI ad o_this ++ wK cI ad o_tokens ++ wT cI ad r4.2) (.int r4.1 :: []) ⟨hx, hb, hml, hown, hts⟩ (c_Tree_add l D cI sd ad o_tree a1 31 o_this.2.2.1 0 r4 hcr4) (cwV2 hts q622 mvX3_add rfl rfl ⟨(Nat.le_of_ble_eq_true rfl), (Nat.le_of_ble_eq_true rfl)⟩) hK hE hA hP hD hS 5 (T := TX3) (N := 8) (ci := 3) rfl rfl [5, 6, 7, 8, 9, 10, 11, 12] rfl (by decide) rfl rfl rfl rfl rfl rfl hl.1 (Nat.le_of_ble_eq_true rfl) dX4_literal_81 ⟨Nat.zero_le _, Nat.zero_le _⟩ (fun H locs hP hD hS => ?_)
        refine lv_pop hx hb dX4_literal_84 rfl ?_
        refine lv_aload_n hx hb dX4_literal_85 rfl (lv_at hl 0 rfl) ?_
        refine lv_aload_n hx hb dX4_literal_86 rfl (lv_at hl 0 rfl) ?_
        refine va_get (D := D) (ci := 4) (v := .int o_this.2.1) (C := RX4) (T := TX4) (N := 12) hx hb hts layX4 hown hK hP 0 rfl rfl 3 (by decide) (hts _ (inA q400)) (fun _ h9 => h9) rfl dX4_literal_87 ?_
        obtain ⟨r5, hcr5, hM⟩ := ob_use hM
        refine cl_V (As := [.int o_this.2.1]) (rest := []) (wP cI ad r5 ++ wK cI ad o_tokens ++ wT cI ad r4.2) [] ⟨hx, hb, hml, hown, hts⟩ (c_Parser_take l D cI sd ad o_this o_tokens o_this.2.1 r5 hcr5) (cwV2 hts q614 mvX4_take rfl rfl ⟨(Nat.le_of_ble_eq_true rfl), (Nat.le_of_ble_eq_true rfl)⟩) hK hE hA hP hD hS 0 (T := TX4) (N := 12) (ci := 4) rfl rfl [0, 1, 2, 3, 4] rfl (by decide) rfl rfl rfl rfl rfl rfl hl.1 (Nat.le_of_ble_eq_true rfl) dX4_literal_90 ⟨Nat.zero_le _, Nat.zero_le _⟩ (fun H locs hP hD hS => ?_)
        refine lv_goto (tgt := 102) hx hb dX4_literal_93 (by decide) ?_
        cases hM
        exact rt_v hx hb hr hlk hP hD hS rfl dX4_literal_102
      · replace hM := if_t c3 hM
        refine lv_iconst (v := 1) hx hb dX4_literal_76 (by decide) ?_
        refine lv_goto (tgt := 81) hx hb dX4_literal_77 (by decide) ?_
        obtain ⟨r6, hcr6, hM⟩ := ob_use hM
        refine cl_V (As := [.int a1, .int 31, .int o_this.2.2.1, .int 1]) (rest := []) (wP cI ad o_this ++ wK cI ad o_tokens ++ wT cI ad r6.2) (.int r6.1 :: []) ⟨hx, hb, hml, hown, hts⟩ (c_Tree_add l D cI sd ad o_tree a1 31 o_this.2.2.1 1 r6 hcr6) (cwV2 hts q622 mvX3_add rfl rfl ⟨(Nat.le_of_ble_eq_true rfl), (Nat.le_of_ble_eq_true rfl)⟩) hK hE hA hP hD hS 5 (T := TX3) (N := 8) (ci := 3) rfl rfl [5, 6, 7, 8, 9, 10, 11, 12] rfl (by decide) rfl rfl rfl rfl rfl rfl hl.1 (Nat.le_of_ble_eq_true rfl) dX4_literal_81 ⟨Nat.zero_le _, Nat.zero_le _⟩ (fun H locs hP hD hS => ?_)
        refine lv_pop hx hb dX4_literal_84 rfl ?_
        refine lv_aload_n hx hb dX4_literal_85 rfl (lv_at hl 0 rfl) ?_
        refine lv_aload_n hx hb dX4_literal_86 rfl (lv_at hl 0 rfl) ?_
        refine va_get (D := D) (ci := 4) (v := .int o_this.2.1) (C := RX4) (T := TX4) (N := 12) hx hb hts layX4 hown hK hP 0 rfl rfl 3 (by decide) (hts _ (inA q400)) (fun _ h9 => h9) rfl dX4_literal_87 ?_
        obtain ⟨r7, hcr7, hM⟩ := ob_use hM
        refine cl_V (As := [.int o_this.2.1]) (rest := []) (wP cI ad r7 ++ wK cI ad o_tokens ++ wT cI ad r6.2) [] ⟨hx, hb, hml, hown, hts⟩ (c_Parser_take l D cI sd ad o_this o_tokens o_this.2.1 r7 hcr7) (cwV2 hts q614 mvX4_take rfl rfl ⟨(Nat.le_of_ble_eq_true rfl), (Nat.le_of_ble_eq_true rfl)⟩) hK hE hA hP hD hS 0 (T := TX4) (N := 12) (ci := 4) rfl rfl [0, 1, 2, 3, 4] rfl (by decide) rfl rfl rfl rfl rfl rfl hl.1 (Nat.le_of_ble_eq_true rfl) dX4_literal_90 ⟨Nat.zero_le _, Nat.zero_le _⟩ (fun H locs hP hD hS => ?_)
        refine lv_goto (tgt := 102) hx hb dX4_literal_93 (by decide) ?_
        cases hM
        exact rt_v hx hb hr hlk hP hD hS rfl dX4_literal_102
    · replace hM := if_f c2 hM
      refine lv_aload_n hx hb dX4_literal_45 rfl (lv_at hl 0 rfl) ?_
      refine va_get (D := D) (ci := 4) (v := .int o_this.2.1) (C := RX4) (T := TX4) (N := 12) hx hb hts layX4 hown hK hP 0 rfl rfl 3 (by decide) (hts _ (inA q400)) (fun _ h9 => h9) rfl dX4_literal_46 ?_
      refine lv_sipush (v := 292) hx hb dX4_literal_49 (by decide) ?_
      refine lv_icmp_ne (tgt := 96) hx hb dX4_literal_52 (by decide) (fun c8 => ?_) (fun c8 => ?_)
      · replace hM := if_f c8 hM
        refine lv_aload_n hx hb dX4_literal_96 rfl (lv_at hl 0 rfl) ?_
        refine lv_bipush (v := 6) hx hb dX4_literal_97 (by decide) ?_
        refine va_put (D := D) (ci := 4) (v := .int 6) (ty := .int) (C := RX4) (T := TX4) (N := 12) hx hb hts layX4 tyX4 tyX4_ok nmX4 hown hK hP hD hS 0 rfl rfl 3 (by decide) (hts _ (inA q400)) (fun _ h9 => h9) rfl (by decide +kernel) rfl rfl (Nat.le_of_ble_eq_true rfl) dX4_literal_99 (fun H locs hP hD hS => ?_)
        have hP : va_P D vwCl (wP cI ad (o_this.1, 6, o_this.2.2) ++ wK cI ad o_tokens ++ wT cI ad o_tree) H := hP
        have hD : va_D A (wP cI ad (o_this.1, 6, o_this.2.2) ++ wK cI ad o_tokens ++ wT cI ad o_tree) := hD
        cases hM
        exact rt_v hx hb hr hlk hP hD hS rfl dX4_literal_102
      · replace hM := if_t c8 hM
        refine lv_aload_n hx hb dX4_literal_55 rfl (lv_at hl 0 rfl) ?_
        refine va_get (D := D) (ci := 4) (v := .ref (ad 14)) (C := RX4) (T := TX4) (N := 12) hx hb hts layX4 hown hK hP 0 rfl rfl 1 (by decide) (hts _ (inA q398)) (fun _ h9 => h9) rfl dX4_literal_56 ?_
        refine lv_iload_n hx hb dX4_literal_59 rfl (lv_at hl 1 rfl) ?_
        refine lv_bipush (v := 31) hx hb dX4_literal_60 (by decide) ?_
        refine lv_aload_n hx hb dX4_literal_62 rfl (lv_at hl 0 rfl) ?_
        refine va_get (D := D) (ci := 4) (v := .int o_this.2.2.1) (C := RX4) (T := TX4) (N := 12) hx hb hts layX4 hown hK hP 0 rfl rfl 4 (by decide) (hts _ (inA q401)) (fun _ h9 => h9) rfl dX4_literal_63 ?_
        refine lv_aload_n hx hb dX4_literal_66 rfl (lv_at hl 0 rfl) ?_
        refine va_get (D := D) (ci := 4) (v := .int o_this.2.1) (C := RX4) (T := TX4) (N := 12) hx hb hts layX4 hown hK hP 0 rfl rfl 3 (by decide) (hts _ (inA q400)) (fun _ h9 => h9) rfl dX4_literal_67 ?_
        refine lv_sipush (v := 291) hx hb dX4_literal_70 (by decide) ?_
        refine lv_icmp_ne (tgt := 80) hx hb dX4_literal_73 (by decide) (fun c9 => ?_) (fun c9 => ?_)
        · replace hM := if_f c9 hM
          refine lv_iconst (v := 0) hx hb dX4_literal_80 (by decide) ?_
          obtain ⟨r10, hcr10, hM⟩ := ob_use hM
          refine cl_V (As := [.int a1, .int 31, .int o_this.2.2.1, .int 0]) (rest := []) (wP cI ad o_this ++ wK cI ad o_tokens ++ wT cI ad r10.2) (.int r10.1 :: []) ⟨hx, hb, hml, hown, hts⟩ (c_Tree_add l D cI sd ad o_tree a1 31 o_this.2.2.1 0 r10 hcr10) (cwV2 hts q622 mvX3_add rfl rfl ⟨(Nat.le_of_ble_eq_true rfl), (Nat.le_of_ble_eq_true rfl)⟩) hK hE hA hP hD hS 5 (T := TX3) (N := 8) (ci := 3) rfl rfl [5, 6, 7, 8, 9, 10, 11, 12] rfl (by decide) rfl rfl rfl rfl rfl rfl hl.1 (Nat.le_of_ble_eq_true rfl) dX4_literal_81 ⟨Nat.zero_le _, Nat.zero_le _⟩ (fun H locs hP hD hS => ?_)
          refine lv_pop hx hb dX4_literal_84 rfl ?_
          refine lv_aload_n hx hb dX4_literal_85 rfl (lv_at hl 0 rfl) ?_
          refine lv_aload_n hx hb dX4_literal_86 rfl (lv_at hl 0 rfl) ?_
          refine va_get (D := D) (ci := 4) (v := .int o_this.2.1) (C := RX4) (T := TX4) (N := 12) hx hb hts layX4 hown hK hP 0 rfl rfl 3 (by decide) (hts _ (inA q400)) (fun _ h9 => h9) rfl dX4_literal_87 ?_
          obtain ⟨r11, hcr11, hM⟩ := ob_use hM
          refine cl_V (As := [.int o_this.2.1]) (rest := []) (wP cI ad r11 ++ wK cI ad o_tokens ++ wT cI ad r10.2) [] ⟨hx, hb, hml, hown, hts⟩ (c_Parser_take l D cI sd ad o_this o_tokens o_this.2.1 r11 hcr11) (cwV2 hts q614 mvX4_take rfl rfl ⟨(Nat.le_of_ble_eq_true rfl), (Nat.le_of_ble_eq_true rfl)⟩) hK hE hA hP hD hS 0 (T := TX4) (N := 12) (ci := 4) rfl rfl [0, 1, 2, 3, 4] rfl (by decide) rfl rfl rfl rfl rfl rfl hl.1 (Nat.le_of_ble_eq_true rfl) dX4_literal_90 ⟨Nat.zero_le _, Nat.zero_le _⟩ (fun H locs hP hD hS => ?_)
          refine lv_goto (tgt := 102) hx hb dX4_literal_93 (by decide) ?_
          cases hM
          exact rt_v hx hb hr hlk hP hD hS rfl dX4_literal_102
        · replace hM := if_t c9 hM
          refine lv_iconst (v := 1) hx hb dX4_literal_76 (by decide) ?_
          refine lv_goto (tgt := 81) hx hb dX4_literal_77 (by decide) ?_
          obtain ⟨r12, hcr12, hM⟩ := ob_use hM
          refine cl_V (As := [.int a1, .int 31, .int o_this.2.2.1, .int 1]) (rest := []) (wP cI ad o_this ++ wK cI ad o_tokens ++ wT cI ad r12.2) (.int r12.1 :: []) ⟨hx, hb, hml, hown, hts⟩ (c_Tree_add l D cI sd ad o_tree a1 31 o_this.2.2.1 1 r12 hcr12) (cwV2 hts q622 mvX3_add rfl rfl ⟨(Nat.le_of_ble_eq_true rfl), (Nat.le_of_ble_eq_true rfl)⟩) hK hE hA hP hD hS 5 (T := TX3) (N := 8) (ci := 3) rfl rfl [5, 6, 7, 8, 9, 10, 11, 12] rfl (by decide) rfl rfl rfl rfl rfl rfl hl.1 (Nat.le_of_ble_eq_true rfl) dX4_literal_81 ⟨Nat.zero_le _, Nat.zero_le _⟩ (fun H locs hP hD hS => ?_)
          refine lv_pop hx hb dX4_literal_84 rfl ?_
          refine lv_aload_n hx hb dX4_literal_85 rfl (lv_at hl 0 rfl) ?_
          refine lv_aload_n hx hb dX4_literal_86 rfl (lv_at hl 0 rfl) ?_
          refine va_get (D := D) (ci := 4) (v := .int o_this.2.1) (C := RX4) (T := TX4) (N := 12) hx hb hts layX4 hown hK hP 0 rfl rfl 3 (by decide) (hts _ (inA q400)) (fun _ h9 => h9) rfl dX4_literal_87 ?_
          obtain ⟨r13, hcr13, hM⟩ := ob_use hM
          refine cl_V (As := [.int o_this.2.1]) (rest := []) (wP cI ad r13 ++ wK cI ad o_tokens ++ wT cI ad r12.2) [] ⟨hx, hb, hml, hown, hts⟩ (c_Parser_take l D cI sd ad o_this o_tokens o_this.2.1 r13 hcr13) (cwV2 hts q614 mvX4_take rfl rfl ⟨(Nat.le_of_ble_eq_true rfl), (Nat.le_of_ble_eq_true rfl)⟩) hK hE hA hP hD hS 0 (T := TX4) (N := 12) (ci := 4) rfl rfl [0, 1, 2, 3, 4] rfl (by decide) rfl rfl rfl rfl rfl rfl hl.1 (Nat.le_of_ble_eq_true rfl) dX4_literal_90 ⟨Nat.zero_le _, Nat.zero_le _⟩ (fun H locs hP hD hS => ?_)
          refine lv_goto (tgt := 102) hx hb dX4_literal_93 (by decide) ?_
          cases hM
          exact rt_v hx hb hr hlk hP hD hS rfl dX4_literal_102
  · replace hM := if_t c1 hM
    refine lv_aload_n hx hb dX4_literal_8 rfl (lv_at hl 0 rfl) ?_
    refine va_get (D := D) (ci := 4) (v := .ref (ad 14)) (C := RX4) (T := TX4) (N := 12) hx hb hts layX4 hown hK hP 0 rfl rfl 1 (by decide) (hts _ (inA q398)) (fun _ h9 => h9) rfl dX4_literal_9 ?_
    refine lv_iload_n hx hb dX4_literal_12 rfl (lv_at hl 1 rfl) ?_
    refine lv_bipush (v := 30) hx hb dX4_literal_13 (by decide) ?_
    refine lv_aload_n hx hb dX4_literal_15 rfl (lv_at hl 0 rfl) ?_
    refine va_get (D := D) (ci := 4) (v := .int o_this.2.2.1) (C := RX4) (T := TX4) (N := 12) hx hb hts layX4 hown hK hP 0 rfl rfl 4 (by decide) (hts _ (inA q401)) (fun _ h9 => h9) rfl dX4_literal_16 ?_
    refine lv_aload_n hx hb dX4_literal_19 rfl (lv_at hl 0 rfl) ?_
    refine va_get (D := D) (ci := 4) (v := .int o_this.2.2.2.1) (C := RX4) (T := TX4) (N := 12) hx hb hts layX4 hown hK hP 0 rfl rfl 5 (by decide) (hts _ (inA q402)) (fun _ h9 => h9) rfl dX4_literal_20 ?_
    obtain ⟨r14, hcr14, hM⟩ := ob_use hM
    refine cl_V (As := [.int a1, .int 30, .int o_this.2.2.1, .int o_this.2.2.2.1]) (rest := []) (wP cI ad o_this ++ wK cI ad o_tokens ++ wT cI ad r14.2) (.int r14.1 :: []) ⟨hx, hb, hml, hown, hts⟩ (c_Tree_add l D cI sd ad o_tree a1 30 o_this.2.2.1 o_this.2.2.2.1 r14 hcr14) (cwV2 hts q622 mvX3_add rfl rfl ⟨(Nat.le_of_ble_eq_true rfl), (Nat.le_of_ble_eq_true rfl)⟩) hK hE hA hP hD hS 5 (T := TX3) (N := 8) (ci := 3) rfl rfl [5, 6, 7, 8, 9, 10, 11, 12] rfl (by decide) rfl rfl rfl rfl rfl rfl hl.1 (Nat.le_of_ble_eq_true rfl) dX4_literal_23 ⟨Nat.zero_le _, Nat.zero_le _⟩ (fun H locs hP hD hS => ?_)
    refine lv_pop hx hb dX4_literal_26 rfl ?_
    refine lv_aload_n hx hb dX4_literal_27 rfl (lv_at hl 0 rfl) ?_
    refine lv_iconst (v := 2) hx hb dX4_literal_28 (by decide) ?_
    obtain ⟨r15, hcr15, hM⟩ := ob_use hM
    refine cl_V (As := [.int 2]) (rest := []) (wP cI ad r15 ++ wK cI ad o_tokens ++ wT cI ad r14.2) [] ⟨hx, hb, hml, hown, hts⟩ (c_Parser_take l D cI sd ad o_this o_tokens 2 r15 hcr15) (cwV2 hts q614 mvX4_take rfl rfl ⟨(Nat.le_of_ble_eq_true rfl), (Nat.le_of_ble_eq_true rfl)⟩) hK hE hA hP hD hS 0 (T := TX4) (N := 12) (ci := 4) rfl rfl [0, 1, 2, 3, 4] rfl (by decide) rfl rfl rfl rfl rfl rfl hl.1 (Nat.le_of_ble_eq_true rfl) dX4_literal_29 ⟨Nat.zero_le _, Nat.zero_le _⟩ (fun H locs hP hD hS => ?_)
    refine lv_goto (tgt := 102) hx hb dX4_literal_32 (by decide) ?_
    cases hM
    exact rt_v hx hb hr hlk hP hD hS rfl dX4_literal_102

set_option maxHeartbeats 4000000 in
set_option maxRecDepth 100000 in
theorem c_Parser_nameNode (l : Launch) (D : va_G) (cI : ClassId) (sd : Nat → Nat) (ad : Nat → Nat) (o_this : S_Parser) (o_tokens : S_Tokens) (o_tree : S_Tree) (a1 : Int32) (res : S_Parser × S_Tree) (hM : f_Parser_nameNode o_this o_tokens o_tree a1 = some res) : Ctr l D cI sd yX4_nameNode (wsM yX4_nameNode cX4_nameNode 2 (Option.none : Option Jvm.ClassFile.FieldType)) { frames := 1, cells := 0, slots := 0, locals := 25 } [.ref (ad 22), .int a1] (wP cI ad o_this ++ wK cI ad o_tokens ++ wT cI ad o_tree) (wP cI ad res.1 ++ wK cI ad o_tokens ++ wT cI ad res.2) none := by
  refine Ctr.of (cc := cX4_nameNode) (maxL := 2) (own := RX4) (by decide +kernel) rfl rfl (Nat.le_of_ble_eq_true rfl) ?_
  intro p e s m below meth c A ls hx hb hr hml hown hts hlk hK hE hA hP hD hS hl
  have hl : lv_has ls 2 [(0, .ref (ad 22)), (1, .int a1)] := hl
  unfold f_Parser_nameNode at hM
  refine lv_aload_n hx hb dX4_nameNode_0 rfl (lv_at hl 0 rfl) ?_
  refine va_get (D := D) (ci := 4) (v := .ref (ad 14)) (C := RX4) (T := TX4) (N := 12) hx hb hts layX4 hown hK hP 0 rfl rfl 1 (by decide) (hts _ (inA q398)) (fun _ h9 => h9) rfl dX4_nameNode_1 ?_
  refine lv_iload_n hx hb dX4_nameNode_4 rfl (lv_at hl 1 rfl) ?_
  refine lv_bipush (v := 6) hx hb dX4_nameNode_5 (by decide) ?_
  refine lv_aload_n hx hb dX4_nameNode_7 rfl (lv_at hl 0 rfl) ?_
  refine va_get (D := D) (ci := 4) (v := .int o_this.2.2.1) (C := RX4) (T := TX4) (N := 12) hx hb hts layX4 hown hK hP 0 rfl rfl 4 (by decide) (hts _ (inA q401)) (fun _ h9 => h9) rfl dX4_nameNode_8 ?_
  refine lv_aload_n hx hb dX4_nameNode_11 rfl (lv_at hl 0 rfl) ?_
  refine va_get (D := D) (ci := 4) (v := .int o_this.2.2.2.1) (C := RX4) (T := TX4) (N := 12) hx hb hts layX4 hown hK hP 0 rfl rfl 5 (by decide) (hts _ (inA q402)) (fun _ h9 => h9) rfl dX4_nameNode_12 ?_
  obtain ⟨r1, hcr1, hM⟩ := ob_use hM
  refine cl_V (As := [.int a1, .int 6, .int o_this.2.2.1, .int o_this.2.2.2.1]) (rest := []) (wP cI ad o_this ++ wK cI ad o_tokens ++ wT cI ad r1.2) (.int r1.1 :: []) ⟨hx, hb, hml, hown, hts⟩ (c_Tree_add l D cI sd ad o_tree a1 6 o_this.2.2.1 o_this.2.2.2.1 r1 hcr1) (cwV2 hts q622 mvX3_add rfl rfl ⟨(Nat.le_of_ble_eq_true rfl), (Nat.le_of_ble_eq_true rfl)⟩) hK hE hA hP hD hS 5 (T := TX3) (N := 8) (ci := 3) rfl rfl [5, 6, 7, 8, 9, 10, 11, 12] rfl (by decide) rfl rfl rfl rfl rfl rfl hl.1 (Nat.le_of_ble_eq_true rfl) dX4_nameNode_15 ⟨Nat.zero_le _, Nat.zero_le _⟩ (fun H locs hP hD hS => ?_)
  refine lv_pop hx hb dX4_nameNode_18 rfl ?_
  refine lv_aload_n hx hb dX4_nameNode_19 rfl (lv_at hl 0 rfl) ?_
  refine lv_iconst (v := 1) hx hb dX4_nameNode_20 (by decide) ?_
  obtain ⟨r2, hcr2, hM⟩ := ob_use hM
  refine cl_V (As := [.int 1]) (rest := []) (wP cI ad r2 ++ wK cI ad o_tokens ++ wT cI ad r1.2) [] ⟨hx, hb, hml, hown, hts⟩ (c_Parser_take l D cI sd ad o_this o_tokens 1 r2 hcr2) (cwV2 hts q614 mvX4_take rfl rfl ⟨(Nat.le_of_ble_eq_true rfl), (Nat.le_of_ble_eq_true rfl)⟩) hK hE hA hP hD hS 0 (T := TX4) (N := 12) (ci := 4) rfl rfl [0, 1, 2, 3, 4] rfl (by decide) rfl rfl rfl rfl rfl rfl hl.1 (Nat.le_of_ble_eq_true rfl) dX4_nameNode_21 ⟨Nat.zero_le _, Nat.zero_le _⟩ (fun H locs hP hD hS => ?_)
  cases hM
  exact rt_v hx hb hr hlk hP hD hS rfl dX4_nameNode_24

set_option maxHeartbeats 4000000 in
set_option maxRecDepth 100000 in
theorem c_Parser_takeClosing (l : Launch) (D : va_G) (cI : ClassId) (sd : Nat → Nat) (ad : Nat → Nat) (o_this : S_Parser) (o_tokens : S_Tokens) (a1 : Int32) (res : S_Parser) (hM : f_Parser_takeClosing o_this o_tokens a1 = some res) : Ctr l D cI sd yX4_takeClosing (wsM yX4_takeClosing cX4_takeClosing 2 (Option.none : Option Jvm.ClassFile.FieldType)) { frames := 1, cells := 0, slots := 0, locals := 22 } [.ref (ad 22), .int a1] (wP cI ad o_this ++ wK cI ad o_tokens) (wP cI ad res ++ wK cI ad o_tokens) none := by
  refine Ctr.of (cc := cX4_takeClosing) (maxL := 2) (own := RX4) (by decide +kernel) rfl rfl (Nat.le_of_ble_eq_true rfl) ?_
  intro p e s m below meth c A ls hx hb hr hml hown hts hlk hK hE hA hP hD hS hl
  have hl : lv_has ls 2 [(0, .ref (ad 22)), (1, .int a1)] := hl
  unfold f_Parser_takeClosing at hM
  refine lv_aload_n hx hb dX4_takeClosing_0 rfl (lv_at hl 0 rfl) ?_
  refine lv_dup hx hb dX4_takeClosing_1 rfl ?_
  refine va_get (D := D) (ci := 4) (v := .int o_this.2.2.2.2.2.2.1) (C := RX4) (T := TX4) (N := 12) hx hb hts layX4 hown hK hP 0 rfl rfl 8 (by decide) (hts _ (inA q405)) (fun _ h9 => h9) rfl dX4_takeClosing_2 ?_
  refine lv_iconst (v := 1) hx hb dX4_takeClosing_5 (by decide) ?_
  refine lv_isub hx hb dX4_takeClosing_6 ?_
  refine va_put (D := D) (ci := 4) (v := .int (o_this.2.2.2.2.2.2.1 - 1)) (ty := .int) (C := RX4) (T := TX4) (N := 12) hx hb hts layX4 tyX4 tyX4_ok nmX4 hown hK hP hD hS 0 rfl rfl 8 (by decide) (hts _ (inA q405)) (fun _ h9 => h9) rfl (by decide +kernel) rfl rfl (Nat.le_of_ble_eq_true rfl) dX4_takeClosing_7 (fun H locs hP hD hS => ?_)
  have hP : va_P D vwCl (wP cI ad (o_this.1, o_this.2.1, o_this.2.2.1, o_this.2.2.2.1, o_this.2.2.2.2.1, o_this.2.2.2.2.2.1, o_this.2.2.2.2.2.2.1 - 1, o_this.2.2.2.2.2.2.2) ++ wK cI ad o_tokens) H := hP
  have hD : va_D A (wP cI ad (o_this.1, o_this.2.1, o_this.2.2.1, o_this.2.2.2.1, o_this.2.2.2.2.1, o_this.2.2.2.2.2.1, o_this.2.2.2.2.2.2.1 - 1, o_this.2.2.2.2.2.2.2) ++ wK cI ad o_tokens) := hD
  refine lv_aload_n hx hb dX4_takeClosing_10 rfl (lv_at hl 0 rfl) ?_
  refine lv_iload_n hx hb dX4_takeClosing_11 rfl (lv_at hl 1 rfl) ?_
  obtain ⟨r1, hcr1, hM⟩ := ob_use hM
  refine cl_V (As := [.int a1]) (rest := []) (wP cI ad r1 ++ wK cI ad o_tokens) [] ⟨hx, hb, hml, hown, hts⟩ (c_Parser_take l D cI sd ad (o_this.1, o_this.2.1, o_this.2.2.1, o_this.2.2.2.1, o_this.2.2.2.2.1, o_this.2.2.2.2.2.1, o_this.2.2.2.2.2.2.1 - 1, o_this.2.2.2.2.2.2.2) o_tokens a1 r1 hcr1) (cwV2 hts q614 mvX4_take rfl rfl ⟨(Nat.le_of_ble_eq_true rfl), (Nat.le_of_ble_eq_true rfl)⟩) hK hE hA hP hD hS 0 (T := TX4) (N := 12) (ci := 4) rfl rfl [0, 1, 2, 3, 4] rfl (by decide) rfl rfl rfl rfl rfl rfl hl.1 (Nat.le_of_ble_eq_true rfl) dX4_takeClosing_12 ⟨Nat.zero_le _, Nat.zero_le _⟩ (fun H locs hP hD hS => ?_)
  cases hM
  exact rt_v hx hb hr hlk hP hD hS rfl dX4_takeClosing_15

set_option maxHeartbeats 4000000 in
set_option maxRecDepth 100000 in
theorem c_Parser_takeComma (l : Launch) (D : va_G) (cI : ClassId) (sd : Nat → Nat) (ad : Nat → Nat) (o_this : S_Parser) (o_tokens : S_Tokens) (res : Int32 × S_Parser) (hM : f_Parser_takeComma o_this o_tokens = some res) : Ctr l D cI sd yX4_takeComma (wsM yX4_takeComma cX4_takeComma 1 (Option.some Jvm.ClassFile.FieldType.boolean)) { frames := 1, cells := 0, slots := 0, locals := 22 } [.ref (ad 22)] (wP cI ad o_this ++ wK cI ad o_tokens) (wP cI ad res.2 ++ wK cI ad o_tokens) (some (.int res.1)) := by
  refine Ctr.of (cc := cX4_takeComma) (maxL := 1) (own := RX4) (by decide +kernel) rfl rfl (Nat.le_of_ble_eq_true rfl) ?_
  intro p e s m below meth c A ls hx hb hr hml hown hts hlk hK hE hA hP hD hS hl
  have hl : lv_has ls 1 [(0, .ref (ad 22))] := hl
  unfold f_Parser_takeComma at hM
  refine lv_aload_n hx hb dX4_takeComma_0 rfl (lv_at hl 0 rfl) ?_
  refine va_get (D := D) (ci := 4) (v := .int o_this.2.1) (C := RX4) (T := TX4) (N := 12) hx hb hts layX4 hown hK hP 0 rfl rfl 3 (by decide) (hts _ (inA q400)) (fun _ h9 => h9) rfl dX4_takeComma_1 ?_
  refine lv_bipush (v := 44) hx hb dX4_takeComma_4 (by decide) ?_
  refine lv_icmp_eq (tgt := 11) hx hb dX4_takeComma_6 (by decide) (fun c1 => ?_) (fun c1 => ?_)
  · replace hM := if_t c1 hM
    refine lv_aload_n hx hb dX4_takeComma_11 rfl (lv_at hl 0 rfl) ?_
    refine lv_bipush (v := 44) hx hb dX4_takeComma_12 (by decide) ?_
    obtain ⟨r2, hcr2, hM⟩ := ob_use hM
    refine cl_V (As := [.int 44]) (rest := []) (wP cI ad r2 ++ wK cI ad o_tokens) [] ⟨hx, hb, hml, hown, hts⟩ (c_Parser_take l D cI sd ad o_this o_tokens 44 r2 hcr2) (cwV2 hts q614 mvX4_take rfl rfl ⟨(Nat.le_of_ble_eq_true rfl), (Nat.le_of_ble_eq_true rfl)⟩) hK hE hA hP hD hS 0 (T := TX4) (N := 12) (ci := 4) rfl rfl [0, 1, 2, 3, 4] rfl (by decide) rfl rfl rfl rfl rfl rfl hl.1 (Nat.le_of_ble_eq_true rfl) dX4_takeComma_14 ⟨Nat.zero_le _, Nat.zero_le _⟩ (fun H locs hP hD hS => ?_)
    refine lv_iconst (v := 1) hx hb dX4_takeComma_17 (by decide) ?_
    cases hM
    exact rt_z hx hb hr hlk (by decide) hP hD hS rfl dX4_takeComma_18
  · replace hM := if_f c1 hM
    refine lv_iconst (v := 0) hx hb dX4_takeComma_9 (by decide) ?_
    cases hM
    exact rt_z hx hb hr hlk (by decide) hP hD hS rfl dX4_takeComma_10

set_option maxHeartbeats 4000000 in
set_option maxRecDepth 100000 in
theorem c_Parser_takeOpening (l : Launch) (D : va_G) (cI : ClassId) (sd : Nat → Nat) (ad : Nat → Nat) (o_this : S_Parser) (o_tokens : S_Tokens) (res : S_Parser) (hM : f_Parser_takeOpening o_this o_tokens = some res) : Ctr l D cI sd yX4_takeOpening (wsM yX4_takeOpening cX4_takeOpening 1 (Option.none : Option Jvm.ClassFile.FieldType)) { frames := 1, cells := 0, slots := 0, locals := 22 } [.ref (ad 22)] (wP cI ad o_this ++ wK cI ad o_tokens) (wP cI ad res ++ wK cI ad o_tokens) none := by
  refine Ctr.of (cc := cX4_takeOpening) (maxL := 1) (own := RX4) (by decide +kernel) rfl rfl (Nat.le_of_ble_eq_true rfl) ?_
  intro p e s m below meth c A ls hx hb hr hml hown hts hlk hK hE hA hP hD hS hl
  have hl : lv_has ls 1 [(0, .ref (ad 22))] := hl
  unfold f_Parser_takeOpening at hM
  refine lv_aload_n hx hb dX4_takeOpening_0 rfl (lv_at hl 0 rfl) ?_
  obtain ⟨r1, hcr1, hM⟩ := ob_use hM
  refine cl_V (As := []) (rest := []) (wP cI ad r1.2 ++ wK cI ad o_tokens) (.int r1.1 :: []) ⟨hx, hb, hml, hown, hts⟩ (c_Parser_mayOpen l D cI sd ad o_this r1 hcr1) (cwV2 hts q719 mvX4_mayOpen rfl rfl ⟨(Nat.le_of_ble_eq_true rfl), (Nat.le_of_ble_eq_true rfl)⟩) hK hE hA hP hD hS 0 (T := TX4) (N := 12) (ci := 4) rfl rfl [0] rfl (by decide) rfl rfl rfl rfl rfl rfl hl.1 (Nat.le_of_ble_eq_true rfl) dX4_takeOpening_1 ⟨Nat.zero_le _, Nat.zero_le _⟩ (fun H locs hP hD hS => ?_)
  refine lv_if_eq (tgt := 25) hx hb dX4_takeOpening_4 (by decide) (fun c2 => ?_) (fun c2 => ?_)
  · replace hM := if_t c2 hM
    cases hM
    exact rt_v hx hb hr hlk hP hD hS rfl dX4_takeOpening_25
  · replace hM := if_f c2 hM
    refine lv_aload_n hx hb dX4_takeOpening_7 rfl (lv_at hl 0 rfl) ?_
    refine lv_dup hx hb dX4_takeOpening_8 rfl ?_
    refine va_get (D := D) (ci := 4) (v := .int r1.2.2.2.2.2.2.2.1) (C := RX4) (T := TX4) (N := 12) hx hb hts layX4 hown hK hP 0 rfl rfl 8 (by decide) (hts _ (inA q405)) (fun _ h9 => h9) rfl dX4_takeOpening_9 ?_
    refine lv_iconst (v := 1) hx hb dX4_takeOpening_12 (by decide) ?_
    refine lv_iadd hx hb dX4_takeOpening_13 ?_
    refine va_put (D := D) (ci := 4) (v := .int (r1.2.2.2.2.2.2.2.1 + 1)) (ty := .int) (C := RX4) (T := TX4) (N := 12) hx hb hts layX4 tyX4 tyX4_ok nmX4 hown hK hP hD hS 0 rfl rfl 8 (by decide) (hts _ (inA q405)) (fun _ h9 => h9) rfl (by decide +kernel) rfl rfl (Nat.le_of_ble_eq_true rfl) dX4_takeOpening_14 (fun H locs hP hD hS => ?_)
    have hP : va_P D vwCl (wP cI ad (r1.2.1, r1.2.2.1, r1.2.2.2.1, r1.2.2.2.2.1, r1.2.2.2.2.2.1, r1.2.2.2.2.2.2.1, r1.2.2.2.2.2.2.2.1 + 1, r1.2.2.2.2.2.2.2.2) ++ wK cI ad o_tokens) H := hP
    have hD : va_D A (wP cI ad (r1.2.1, r1.2.2.1, r1.2.2.2.1, r1.2.2.2.2.1, r1.2.2.2.2.2.1, r1.2.2.2.2.2.2.1, r1.2.2.2.2.2.2.2.1 + 1, r1.2.2.2.2.2.2.2.2) ++ wK cI ad o_tokens) := hD
    refine lv_aload_n hx hb dX4_takeOpening_17 rfl (lv_at hl 0 rfl) ?_
    refine lv_aload_n hx hb dX4_takeOpening_18 rfl (lv_at hl 0 rfl) ?_
    refine va_get (D := D) (ci := 4) (v := .int r1.2.2.1) (C := RX4) (T := TX4) (N := 12) hx hb hts layX4 hown hK hP 0 rfl rfl 3 (by decide) (hts _ (inA q400)) (fun _ h9 => h9) rfl dX4_takeOpening_19 ?_
    obtain ⟨r3, hcr3, hM⟩ := ob_use hM
    refine cl_V (As := [.int r1.2.2.1]) (rest := []) (wP cI ad r3 ++ wK cI ad o_tokens) [] ⟨hx, hb, hml, hown, hts⟩ (c_Parser_take l D cI sd ad (r1.2.1, r1.2.2.1, r1.2.2.2.1, r1.2.2.2.2.1, r1.2.2.2.2.2.1, r1.2.2.2.2.2.2.1, r1.2.2.2.2.2.2.2.1 + 1, r1.2.2.2.2.2.2.2.2) o_tokens r1.2.2.1 r3 hcr3) (cwV2 hts q614 mvX4_take rfl rfl ⟨(Nat.le_of_ble_eq_true rfl), (Nat.le_of_ble_eq_true rfl)⟩) hK hE hA hP hD hS 0 (T := TX4) (N := 12) (ci := 4) rfl rfl [0, 1, 2, 3, 4] rfl (by decide) rfl rfl rfl rfl rfl rfl hl.1 (Nat.le_of_ble_eq_true rfl) dX4_takeOpening_22 ⟨Nat.zero_le _, Nat.zero_le _⟩ (fun H locs hP hD hS => ?_)
    cases hM
    exact rt_v hx hb hr hlk hP hD hS rfl dX4_takeOpening_25

set_option maxHeartbeats 4000000 in
set_option maxRecDepth 100000 in
theorem c_Parser_operandByName (l : Launch) (D : va_G) (cI : ClassId) (sd : Nat → Nat) (ad : Nat → Nat) (fr lo : Nat) (f_expression : S_Parser → S_Tokens → S_Tree → Int32 → Int32 → Option (S_Parser × S_Tree)) (H_expression : ∀ (o_this : S_Parser) (o_tokens : S_Tokens) (o_tree : S_Tree) (a1 : Int32) (a2 : Int32) (res : S_Parser × S_Tree), f_expression o_this o_tokens o_tree a1 a2 = some res → Ctr l D cI sd yX4_expression (wsM yX4_expression cX4_expression 7 (Option.none : Option Jvm.ClassFile.FieldType)) { frames := fr, cells := 0, slots := 0, locals := lo } [.ref (ad 22), .int a1, .int a2] (wP cI ad o_this ++ wK cI ad o_tokens ++ wT cI ad o_tree) (wP cI ad res.1 ++ wK cI ad o_tokens ++ wT cI ad res.2) none) (o_this : S_Parser) (o_tokens : S_Tokens) (o_tree : S_Tree) (a1 : Int32) (res : S_Parser × S_Tree) (hM : f_Parser_operandByName f_expression o_this o_tokens o_tree a1 = some res) : Ctr l D cI sd yX4_operandByName (wsM yX4_operandByName cX4_operandByName 8 (Option.none : Option Jvm.ClassFile.FieldType)) { frames := max (fr + 1) 2, cells := 0, slots := 0, locals := max (lo + 26) 46 } [.ref (ad 22), .int a1] (wP cI ad o_this ++ wK cI ad o_tokens ++ wT cI ad o_tree) (wP cI ad res.1 ++ wK cI ad o_tokens ++ wT cI ad res.2) none := by
  refine Ctr.of (cc := cX4_operandByName) (maxL := 8) (own := RX4) (by decide +kernel) rfl rfl (Nat.le_of_ble_eq_true rfl) ?_
  intro p e s m below meth c A ls hx hb hr hml hown hts hlk hK hE hA hP hD hS hl
  have hl : lv_has ls 8 [(0, .ref (ad 22)), (1, .int a1)] := hl
  unfold f_Parser_operandByName at hM
  refine lv_aload_n hx hb dX4_operandByName_0 rfl (lv_at hl 0 rfl) ?_
  refine va_get (D := D) (ci := 4) (v := .int o_this.2.2.1) (C := RX4) (T := TX4) (N := 12) hx hb hts layX4 hown hK hP 0 rfl rfl 4 (by decide) (hts _ (inA q401)) (fun _ h9 => h9) rfl dX4_operandByName_1 ?_
  refine lv_istore_n (lv' := [(2, .int o_this.2.2.1), (0, .ref (ad 22)), (1, .int a1)]) hx hb dX4_operandByName_4 rfl hl (by decide) rfl (fun ls hl => ?_)
  refine lv_aload_n hx hb dX4_operandByName_5 rfl (lv_at hl 1 rfl) ?_
  obtain ⟨r1, hcr1, hM⟩ := ob_use hM
  refine cl_V (As := []) (rest := []) (wP cI ad r1.2 ++ wK cI ad o_tokens ++ wT cI ad o_tree) (.int r1.1 :: []) ⟨hx, hb, hml, hown, hts⟩ (c_Parser_takeName l D cI sd ad o_this o_tokens r1 hcr1) (cwV2 hts q637 mvX4_takeName rfl rfl ⟨(mxN (Nat.le_of_ble_eq_true rfl)), (mxN (Nat.le_of_ble_eq_true rfl))⟩) hK hE hA hP hD hS 0 (T := TX4) (N := 12) (ci := 4) rfl rfl [0, 1, 2, 3, 4] rfl (by decide) rfl rfl rfl rfl rfl rfl hl.1 (Nat.le_of_ble_eq_true rfl) dX4_operandByName_6 ⟨Nat.zero_le _, Nat.zero_le _⟩ (fun H locs hP hD hS => ?_)
  refine lv_istore_n (lv' := [(3, .int r1.1), (2, .int o_this.2.2.1), (0, .ref (ad 22)), (1, .int a1)]) hx hb dX4_operandByName_9 rfl hl (by decide) rfl (fun ls hl => ?_)
  refine lv_aload_n hx hb dX4_operandByName_10 rfl (lv_at hl 2 rfl) ?_
  refine va_get (D := D) (ci := 4) (v := .int r1.2.2.1) (C := RX4) (T := TX4) (N := 12) hx hb hts layX4 hown hK hP 0 rfl rfl 3 (by decide) (hts _ (inA q400)) (fun _ h9 => h9) rfl dX4_operandByName_11 ?_
  by_cases c2 : r1.2.2.1 = 40
  · replace hM := if_t c2 hM
    refine lv_lookup (off := 93) (tgt := 107) hx hb dX4_operandByName_14 (by decide) (by exact sw_hit c2 (by decide)) (by decide) ?_
    refine lv_aload_n hx hb dX4_operandByName_107 rfl (lv_at hl 2 rfl) ?_
    refine va_get (D := D) (ci := 4) (v := .ref (ad 14)) (C := RX4) (T := TX4) (N := 12) hx hb hts layX4 hown hK hP 0 rfl rfl 1 (by decide) (hts _ (inA q398)) (fun _ h9 => h9) rfl dX4_operandByName_108 ?_
    refine lv_iload_n hx hb dX4_operandByName_111 rfl (lv_at hl 3 rfl) ?_
    refine lv_bipush (v := 34) hx hb dX4_operandByName_112 (by decide) ?_
    refine lv_iload_n hx hb dX4_operandByName_114 rfl (lv_at hl 1 rfl) ?_
    refine lv_iload_n hx hb dX4_operandByName_115 rfl (lv_at hl 0 rfl) ?_
    obtain ⟨r3, hcr3, hM⟩ := ob_use hM
    refine cl_V (As := [.int a1, .int 34, .int o_this.2.2.1, .int r1.1]) (rest := []) (wP cI ad r1.2 ++ wK cI ad o_tokens ++ wT cI ad r3.2) (.int r3.1 :: []) ⟨hx, hb, hml, hown, hts⟩ (c_Tree_add l D cI sd ad o_tree a1 34 o_this.2.2.1 r1.1 r3 hcr3) (cwV2 hts q622 mvX3_add rfl rfl ⟨(mxN (Nat.le_of_ble_eq_true rfl)), (mxN (Nat.le_of_ble_eq_true rfl))⟩) hK hE hA hP hD hS 5 (T := TX3) (N := 8) (ci := 3) rfl rfl [5, 6, 7, 8, 9, 10, 11, 12] rfl (by decide) rfl rfl rfl rfl rfl rfl hl.1 (Nat.le_of_ble_eq_true rfl) dX4_operandByName_116 ⟨Nat.zero_le _, Nat.zero_le _⟩ (fun H locs hP hD hS => ?_)
    refine lv_istore (lv' := [(5, .int r3.1), (3, .int r1.1), (2, .int o_this.2.2.1), (0, .ref (ad 22)), (1, .int a1)]) hx hb dX4_operandByName_119 hl (by decide) rfl (fun ls hl => ?_)
    refine lv_aload_n hx hb dX4_operandByName_121 rfl (lv_at hl 3 rfl) ?_
    obtain ⟨r4, hcr4, hM⟩ := ob_use hM
    refine cl_V (As := []) (rest := []) (wP cI ad r4 ++ wK cI ad o_tokens ++ wT cI ad r3.2) [] ⟨hx, hb, hml, hown, hts⟩ (c_Parser_takeOpening l D cI sd ad r1.2 o_tokens r4 hcr4) (cwV2 hts q715 mvX4_takeOpening rfl rfl ⟨(mxN (Nat.le_of_ble_eq_true rfl)), (mxN (Nat.le_of_ble_eq_true rfl))⟩) hK hE hA hP hD hS 0 (T := TX4) (N := 12) (ci := 4) rfl rfl [0, 1, 2, 3, 4] rfl (by decide) rfl rfl rfl rfl rfl rfl hl.1 (Nat.le_of_ble_eq_true rfl) dX4_operandByName_122 ⟨Nat.zero_le _, Nat.zero_le _⟩ (fun H locs hP hD hS => ?_)
    refine lv_aload_n hx hb dX4_operandByName_125 rfl (lv_at hl 3 rfl) ?_
    refine va_get (D := D) (ci := 4) (v := .int r4.2.1) (C := RX4) (T := TX4) (N := 12) hx hb hts layX4 hown hK hP 0 rfl rfl 3 (by decide) (hts _ (inA q400)) (fun _ h9 => h9) rfl dX4_operandByName_126 ?_
    refine lv_bipush (v := 41) hx hb dX4_operandByName_129 (by decide) ?_
    refine lv_icmp_eq (tgt := 138) hx hb dX4_operandByName_131 (by decide) (fun c5 => ?_) (fun c5 => ?_)
    · replace hM := if_t c5 hM
      refine lv_iconst (v := 0) hx hb dX4_operandByName_138 (by decide) ?_
      refine lv_istore (lv' := [(6, .int 0), (5, .int r3.1), (3, .int r1.1), (2, .int o_this.2.2.1), (0, .ref (ad 22)), (1, .int a1)]) hx hb dX4_operandByName_139 hl (by decide) rfl (fun ls hl => ?_)
      refine lv_iconst (v := 0) hx hb dX4_operandByName_141 (by decide) ?_
      refine lv_istore (lv' := [(7, .int 0), (6, .int 0), (5, .int r3.1), (3, .int r1.1), (2, .int o_this.2.2.1), (0, .ref (ad 22)), (1, .int a1)]) hx hb dX4_operandByName_142 hl (by decide) rfl (fun ls hl => ?_)
      have lp_L144 : ∀ (w5_L144 : Int32) (o_tokens_L144 : S_Tokens) (n : Nat) (v7_L144 : Int32) (v6_L144 : Int32) (o_this_L144 : S_Parser) (o_tree_L144 : S_Tree) (out_L144 : S_Parser × S_Tree) (H : Heap) (locs : List Loc) (ls : Array Slot), f_Parser_operandByName_L144 f_expression w5_L144 o_tokens_L144 n v7_L144 v6_L144 o_this_L144 o_tree_L144 = some out_L144 → va_P D vwCl (wP cI ad o_this_L144 ++ wK cI ad o_tokens_L144 ++ wT cI ad o_tree_L144) H → va_D A (wP cI ad o_this_L144 ++ wK cI ad o_tokens_L144 ++ wT cI ad o_tree_L144) → va_S A s.heap H locs → lv_has ls 8 [(7, .int v7_L144), (6, .int v6_L144), (5, .int w5_L144), (0, .ref (ad 22))] → (∀ (H : Heap) (locs : List Loc) (ls : Array Slot), va_P D vwCl (wP cI ad out_L144.1 ++ wK cI ad o_tokens_L144 ++ wT cI ad out_L144.2) H → va_D A (wP cI ad out_L144.1 ++ wK cI ad o_tokens_L144 ++ wT cI ad out_L144.2) → va_S A s.heap H locs → lv_has ls 8 [(5, .int w5_L144), (0, .ref (ad 22))] → W p l e { frames := max (fr + 1) 2, cells := 0, slots := 0, locals := max (lo + 26) 46 } s m [.ref (ad 22), .int a1].toArray below meth c H locs 0 0 (MQ below (CQ D A (wP cI ad res.1 ++ wK cI ad o_tokens ++ wT cI ad res.2) none) [.ref (ad 22), .int a1].toArray s 0 0 A) (F0 m 176 ls [])) → W p l e { frames := max (fr + 1) 2, cells := 0, slots := 0, locals := max (lo + 26) 46 } s m [.ref (ad 22), .int a1].toArray below meth c H locs 0 0 (MQ below (CQ D A (wP cI ad res.1 ++ wK cI ad o_tokens ++ wT cI ad res.2) none) [.ref (ad 22), .int a1].toArray s 0 0 A) (F0 m 144 ls []) := by
        intro w5_L144 o_tokens_L144 n
        induction n with
        | zero => intro v7_L144 v6_L144 o_this_L144 o_tree_L144 out_L144 H locs ls hM; exact absurd (show none = some _ from hM) (by simp)
        | succ n ih_L144 =>
          intro v7_L144 v6_L144 o_this_L144 o_tree_L144 out_L144 H locs ls hM hP hD hS hl kx_L144
          rw [f_Parser_operandByName_L144] at hM
          refine lv_iload hx hb dX4_operandByName_144 (lv_at hl 1 rfl) ?_
          refine lv_if_eq (tgt := 176) hx hb dX4_operandByName_146 (by decide) (fun c2541 => ?_) (fun c2541 => ?_)
          · replace hM := if_t c2541 hM
            cases hM
            exact kx_L144 _ _ _ hP hD hS (lv_sub hl [2, 3] rfl)
          · replace hM := if_f c2541 hM
            refine lv_iload hx hb dX4_operandByName_149 (lv_at hl 0 rfl) ?_
            refine lv_sipush (v := 8192) hx hb dX4_operandByName_151 (by decide) ?_
            refine lv_icmp_ge (tgt := 176) hx hb dX4_operandByName_154 (by decide) (fun c2542 => ?_) (fun c2542 => ?_)
            · replace hM := if_t c2542 hM
              cases hM
              exact kx_L144 _ _ _ hP hD hS (lv_sub hl [2, 3] rfl)
            · replace hM := if_f c2542 hM
              refine lv_aload_n hx hb dX4_operandByName_157 rfl (lv_at hl 3 rfl) ?_
              refine lv_iload hx hb dX4_operandByName_158 (lv_at hl 2 rfl) ?_
              refine lv_iconst (v := 0) hx hb dX4_operandByName_160 (by decide) ?_
              obtain ⟨r2543, hcr2543, hM⟩ := ob_use hM
              refine cl_V (As := [.int w5_L144, .int 0]) (rest := []) (wP cI ad r2543.1 ++ wK cI ad o_tokens_L144 ++ wT cI ad r2543.2) [] ⟨hx, hb, hml, hown, hts⟩ (H_expression o_this_L144 o_tokens_L144 o_tree_L144 w5_L144 0 r2543 hcr2543) (cwV2 hts q727 mvX4_expression rfl rfl ⟨mxF0 (by decide), mxL0 (by decide)⟩) hK hE hA hP hD hS 0 (T := TX4) (N := 12) (ci := 4) rfl rfl [0, 1, 2, 3, 4, 5, 6, 7, 8, 9, 10, 11, 12] rfl (by decide) rfl rfl rfl rfl rfl rfl hl.1 (Nat.le_of_ble_eq_true rfl) dX4_operandByName_161 ⟨Nat.zero_le _, Nat.zero_le _⟩ (fun H locs hP hD hS => ?_)
              refine lv_aload_n hx hb dX4_operandByName_164 rfl (lv_at hl 3 rfl) ?_
              obtain ⟨r2544, hcr2544, hM⟩ := ob_use hM
              refine cl_V (As := []) (rest := []) (wP cI ad r2544.2 ++ wK cI ad o_tokens_L144 ++ wT cI ad r2543.2) (.int r2544.1 :: []) ⟨hx, hb, hml, hown, hts⟩ (c_Parser_takeComma l D cI sd ad r2543.1 o_tokens_L144 r2544 hcr2544) (cwV2 hts q743 mvX4_takeComma rfl rfl ⟨(mxN (Nat.le_of_ble_eq_true rfl)), (mxN (Nat.le_of_ble_eq_true rfl))⟩) hK hE hA hP hD hS 0 (T := TX4) (N := 12) (ci := 4) rfl rfl [0, 1, 2, 3, 4] rfl (by decide) rfl rfl rfl rfl rfl rfl hl.1 (Nat.le_of_ble_eq_true rfl) dX4_operandByName_165 ⟨Nat.zero_le _, Nat.zero_le _⟩ (fun H locs hP hD hS => ?_)
              refine lv_istore (lv' := [(6, .int r2544.1), (7, .int v7_L144), (5, .int w5_L144), (0, .ref (ad 22))]) hx hb dX4_operandByName_168 hl (by decide) rfl (fun ls hl => ?_)
              obtain ⟨x2545, ex2545⟩ : ∃ y : Int32, y = v7_L144 + 1 := ⟨_, rfl⟩
              replace hM := nm_use ex2545 hM
              refine lv_iinc (v := x2545) (lv' := [(7, .int x2545), (6, .int r2544.1), (5, .int w5_L144), (0, .ref (ad 22))]) hx hb dX4_operandByName_170 hl (k := 1) rfl (by rw [ex2545]; rfl) (by decide) rfl (fun ls hl => ?_)
              refine lv_goto (tgt := 144) hx hb dX4_operandByName_173 (by decide) ?_
              exact ih_L144 x2545 r2544.1 r2544.2 r2543.2 out_L144 _ _ _ hM hP hD hS (lv_sub hl [0, 1, 2, 3] rfl) kx_L144
      obtain ⟨r6, hcr6, hM⟩ := ob_use hM
      refine lp_L144 r3.1 o_tokens FU 0 0 r4 r3.2 r6 _ _ _ hcr6 hP hD hS (lv_sub hl [0, 1, 2, 5] rfl) (fun H locs ls hP hD hS hl => ?_)
      refine lv_aload_n hx hb dX4_operandByName_176 rfl (lv_at hl 1 rfl) ?_
      refine lv_bipush (v := 41) hx hb dX4_operandByName_177 (by decide) ?_
      obtain ⟨r7, hcr7, hM⟩ := ob_use hM
      refine cl_V (As := [.int 41]) (rest := []) (wP cI ad r7 ++ wK cI ad o_tokens ++ wT cI ad r6.2) [] ⟨hx, hb, hml, hown, hts⟩ (c_Parser_takeClosing l D cI sd ad r6.1 o_tokens 41 r7 hcr7) (cwV2 hts q735 mvX4_takeClosing rfl rfl ⟨(mxN (Nat.le_of_ble_eq_true rfl)), (mxN (Nat.le_of_ble_eq_true rfl))⟩) hK hE hA hP hD hS 0 (T := TX4) (N := 12) (ci := 4) rfl rfl [0, 1, 2, 3, 4] rfl (by decide) rfl rfl rfl rfl rfl rfl hl.1 (Nat.le_of_ble_eq_true rfl) dX4_operandByName_179 ⟨Nat.zero_le _, Nat.zero_le _⟩ (fun H locs hP hD hS => ?_)
      refine lv_goto (tgt := 198) hx hb dX4_operandByName_182 (by decide) ?_
      cases hM
      exact rt_v hx hb hr hlk hP hD hS rfl dX4_operandByName_198
    · replace hM := if_f c5 hM
      refine lv_iconst (v := 1) hx hb dX4_operandByName_134 (by decide) ?_
      refine lv_goto (tgt := 139) hx hb dX4_operandByName_135 (by decide) ?_
      refine lv_istore (lv' := [(6, .int 1), (5, .int r3.1), (3, .int r1.1), (2, .int o_this.2.2.1), (0, .ref (ad 22)), (1, .int a1)]) hx hb dX4_operandByName_139 hl (by decide) rfl (fun ls hl => ?_)
      refine lv_iconst (v := 0) hx hb dX4_operandByName_141 (by decide) ?_
      refine lv_istore (lv' := [(7, .int 0), (6, .int 1), (5, .int r3.1), (3, .int r1.1), (2, .int o_this.2.2.1), (0, .ref (ad 22)), (1, .int a1)]) hx hb dX4_operandByName_142 hl (by decide) rfl (fun ls hl => ?_)
      have lp_L144 : ∀ (w5_L144 : Int32) (o_tokens_L144 : S_Tokens) (n : Nat) (v7_L144 : Int32) (v6_L144 : Int32) (o_this_L144 : S_Parser) (o_tree_L144 : S_Tree) (out_L144 : S_Parser × S_Tree) (H : Heap) (locs : List Loc) (ls : Array Slot), f_Parser_operandByName_L144 f_expression w5_L144 o_tokens_L144 n v7_L144 v6_L144 o_this_L144 o_tree_L144 = some out_L144 → va_P D vwCl (wP cI ad o_this_L144 ++ wK cI ad o_tokens_L144 ++ wT cI ad o_tree_L144) H → va_D A (wP cI ad o_this_L144 ++ wK cI ad o_tokens_L144 ++ wT cI ad o_tree_L144) → va_S A s.heap H locs → lv_has ls 8 [(7, .int v7_L144), (6, .int v6_L144), (5, .int w5_L144), (0, .ref (ad 22))] → (∀ (H : Heap) (locs : List Loc) (ls : Array Slot), va_P D vwCl (wP cI ad out_L144.1 ++ wK cI ad o_tokens_L144 ++ wT cI ad out_L144.2) H → va_D A (wP cI ad out_L144.1 ++ wK cI ad o_tokens_L144 ++ wT cI ad out_L144.2) → va_S A s.heap H locs → lv_has ls 8 [(5, .int w5_L144), (0, .ref (ad 22))] → W p l e { frames := max (fr + 1) 2, cells := 0, slots := 0, locals := max (lo + 26) 46 } s m [.ref (ad 22), .int a1].toArray below meth c H locs 0 0 (MQ below (CQ D A (wP cI ad res.1 ++ wK cI ad o_tokens ++ wT cI ad res.2) none) [.ref (ad 22), .int a1].toArray s 0 0 A) (F0 m 176 ls [])) → W p l e { frames := max (fr + 1) 2, cells := 0, slots := 0, locals := max (lo + 26) 46 } s m [.ref (ad 22), .int a1].toArray below meth c H locs 0 0 (MQ below (CQ D A (wP cI ad res.1 ++ wK cI ad o_tokens ++ wT cI ad res.2) none) [.ref (ad 22), .int a1].toArray s 0 0 A) (F0 m 144 ls []) := by
        intro w5_L144 o_tokens_L144 n
        induction n with
        | zero => intro v7_L144 v6_L144 o_this_L144 o_tree_L144 out_L144 H locs ls hM; exact absurd (show none = some _ from hM) (by simp)
        | succ n ih_L144 =>
          intro v7_L144 v6_L144 o_this_L144 o_tree_L144 out_L144 H locs ls hM hP hD hS hl kx_L144
          rw [f_Parser_operandByName_L144] at hM
          refine lv_iload hx hb dX4_operandByName_144 (lv_at hl 1 rfl) ?_
          refine lv_if_eq (tgt := 176) hx hb dX4_operandByName_146 (by decide) (fun c2541 => ?_) (fun c2541 => ?_)
          · replace hM := if_t c2541 hM
            cases hM
            exact kx_L144 _ _ _ hP hD hS (lv_sub hl [2, 3] rfl)
          · replace hM := if_f c2541 hM
            refine lv_iload hx hb dX4_operandByName_149 (lv_at hl 0 rfl) ?_
            refine lv_sipush (v := 8192) hx hb dX4_operandByName_151 (by decide) ?_
            refine lv_icmp_ge (tgt := 176) hx hb dX4_operandByName_154 (by decide) (fun c2542 => ?_) (fun c2542 => ?_)
            · replace hM := if_t c2542 hM
              cases hM
              exact kx_L144 _ _ _ hP hD hS (lv_sub hl [2, 3] rfl)
            · replace hM := if_f c2542 hM
              refine lv_aload_n hx hb dX4_operandByName_157 rfl (lv_at hl 3 rfl) ?_
              refine lv_iload hx hb dX4_operandByName_158 (lv_at hl 2 rfl) ?_
              refine lv_iconst (v := 0) hx hb dX4_operandByName_160 (by decide) ?_
              obtain ⟨r2543, hcr2543, hM⟩ := ob_use hM
              refine cl_V (As := [.int w5_L144, .int 0]) (rest := []) (wP cI ad r2543.1 ++ wK cI ad o_tokens_L144 ++ wT cI ad r2543.2) [] ⟨hx, hb, hml, hown, hts⟩ (H_expression o_this_L144 o_tokens_L144 o_tree_L144 w5_L144 0 r2543 hcr2543) (cwV2 hts q727 mvX4_expression rfl rfl ⟨mxF0 (by decide), mxL0 (by decide)⟩) hK hE hA hP hD hS 0 (T := TX4) (N := 12) (ci := 4) rfl rfl [0, 1, 2, 3, 4, 5, 6, 7, 8, 9, 10, 11, 12] rfl (by decide) rfl rfl rfl rfl rfl rfl hl.1 (Nat.le_of_ble_eq_true rfl) dX4_operandByName_161 ⟨Nat.zero_le _, Nat.zero_le _⟩ (fun H locs hP hD hS => ?_)
              refine lv_aload_n hx hb dX4_operandByName_164 rfl (lv_at hl 3 rfl) ?_
              obtain ⟨r2544, hcr2544, hM⟩ := ob_use hM
              refine cl_V (As := []) (rest := []) (wP cI ad r2544.2 ++ wK cI ad o_tokens_L144 ++ wT cI ad r2543.2) (.int r2544.1 :: []) ⟨hx, hb, hml, hown, hts⟩ (c_Parser_takeComma l D cI sd ad r2543.1 o_tokens_L144 r2544 hcr2544) (cwV2 hts q743 mvX4_takeComma rfl rfl ⟨(mxN (Nat.le_of_ble_eq_true rfl)), (mxN (Nat.le_of_ble_eq_true rfl))⟩) hK hE hA hP hD hS 0 (T := TX4) (N := 12) (ci := 4) rfl rfl [0, 1, 2, 3, 4] rfl (by decide) rfl rfl rfl rfl rfl rfl hl.1 (Nat.le_of_ble_eq_true rfl) dX4_operandByName_165 ⟨Nat.zero_le _, Nat.zero_le _⟩ (fun H locs hP hD hS => ?_)
              refine lv_istore (lv' := [(6, .int r2544.1), (7, .int v7_L144), (5, .int w5_L144), (0, .ref (ad 22))]) hx hb dX4_operandByName_168 hl (by decide) rfl (fun ls hl => ?_)
              obtain ⟨x2545, ex2545⟩ : ∃ y : Int32, y = v7_L144 + 1 := ⟨_, rfl⟩
              replace hM := nm_use ex2545 hM
              refine lv_iinc (v := x2545) (lv' := [(7, .int x2545), (6, .int r2544.1), (5, .int w5_L144), (0, .ref (ad 22))]) hx hb dX4_operandByName_170 hl (k := 1) rfl (by rw [ex2545]; rfl) (by decide) rfl (fun ls hl => ?_)
              refine lv_goto (tgt := 144) hx hb dX4_operandByName_173 (by decide) ?_
              exact ih_L144 x2545 r2544.1 r2544.2 r2543.2 out_L144 _ _ _ hM hP hD hS (lv_sub hl [0, 1, 2, 3] rfl) kx_L144
      obtain ⟨r8, hcr8, hM⟩ := ob_use hM
      refine lp_L144 r3.1 o_tokens FU 0 1 r4 r3.2 r8 _ _ _ hcr8 hP hD hS (lv_sub hl [0, 1, 2, 5] rfl) (fun H locs ls hP hD hS hl => ?_)
      refine lv_aload_n hx hb dX4_operandByName_176 rfl (lv_at hl 1 rfl) ?_
      refine lv_bipush (v := 41) hx hb dX4_operandByName_177 (by decide) ?_
      obtain ⟨r9, hcr9, hM⟩ := ob_use hM
      refine cl_V (As := [.int 41]) (rest := []) (wP cI ad r9 ++ wK cI ad o_tokens ++ wT cI ad r8.2) [] ⟨hx, hb, hml, hown, hts⟩ (c_Parser_takeClosing l D cI sd ad r8.1 o_tokens 41 r9 hcr9) (cwV2 hts q735 mvX4_takeClosing rfl rfl ⟨(mxN (Nat.le_of_ble_eq_true rfl)), (mxN (Nat.le_of_ble_eq_true rfl))⟩) hK hE hA hP hD hS 0 (T := TX4) (N := 12) (ci := 4) rfl rfl [0, 1, 2, 3, 4] rfl (by decide) rfl rfl rfl rfl rfl rfl hl.1 (Nat.le_of_ble_eq_true rfl) dX4_operandByName_179 ⟨Nat.zero_le _, Nat.zero_le _⟩ (fun H locs hP hD hS => ?_)
      refine lv_goto (tgt := 198) hx hb dX4_operandByName_182 (by decide) ?_
      cases hM
      exact rt_v hx hb hr hlk hP hD hS rfl dX4_operandByName_198
  replace hM := if_f c2 hM
  by_cases c10 : r1.2.2.1 = 46
  · replace hM := if_t c10 hM
    refine lv_lookup (off := 68) (tgt := 82) hx hb dX4_operandByName_14 (by decide) (by rw [lv_osw c2 (by decide)]; exact sw_hit c10 (by decide)) (by decide) ?_
    refine lv_aload_n hx hb dX4_operandByName_82 rfl (lv_at hl 2 rfl) ?_
    refine lv_bipush (v := 46) hx hb dX4_operandByName_83 (by decide) ?_
    obtain ⟨r11, hcr11, hM⟩ := ob_use hM
    refine cl_V (As := [.int 46]) (rest := []) (wP cI ad r11 ++ wK cI ad o_tokens ++ wT cI ad o_tree) [] ⟨hx, hb, hml, hown, hts⟩ (c_Parser_take l D cI sd ad r1.2 o_tokens 46 r11 hcr11) (cwV2 hts q614 mvX4_take rfl rfl ⟨(mxN (Nat.le_of_ble_eq_true rfl)), (mxN (Nat.le_of_ble_eq_true rfl))⟩) hK hE hA hP hD hS 0 (T := TX4) (N := 12) (ci := 4) rfl rfl [0, 1, 2, 3, 4] rfl (by decide) rfl rfl rfl rfl rfl rfl hl.1 (Nat.le_of_ble_eq_true rfl) dX4_operandByName_85 ⟨Nat.zero_le _, Nat.zero_le _⟩ (fun H locs hP hD hS => ?_)
    refine lv_aload_n hx hb dX4_operandByName_88 rfl (lv_at hl 2 rfl) ?_
    refine lv_aload_n hx hb dX4_operandByName_89 rfl (lv_at hl 2 rfl) ?_
    refine va_get (D := D) (ci := 4) (v := .ref (ad 14)) (C := RX4) (T := TX4) (N := 12) hx hb hts layX4 hown hK hP 0 rfl rfl 1 (by decide) (hts _ (inA q398)) (fun _ h9 => h9) rfl dX4_operandByName_90 ?_
    refine lv_iload_n hx hb dX4_operandByName_93 rfl (lv_at hl 3 rfl) ?_
    refine lv_bipush (v := 33) hx hb dX4_operandByName_94 (by decide) ?_
    refine lv_iload_n hx hb dX4_operandByName_96 rfl (lv_at hl 1 rfl) ?_
    refine lv_iload_n hx hb dX4_operandByName_97 rfl (lv_at hl 0 rfl) ?_
    obtain ⟨r12, hcr12, hM⟩ := ob_use hM
    refine cl_V (As := [.int a1, .int 33, .int o_this.2.2.1, .int r1.1]) (rest := [.ref (ad 22)]) (wP cI ad r11 ++ wK cI ad o_tokens ++ wT cI ad r12.2) (.int r12.1 :: [.ref (ad 22)]) ⟨hx, hb, hml, hown, hts⟩ (c_Tree_add l D cI sd ad o_tree a1 33 o_this.2.2.1 r1.1 r12 hcr12) (cwV2 hts q622 mvX3_add rfl rfl ⟨(mxN (Nat.le_of_ble_eq_true rfl)), (mxN (Nat.le_of_ble_eq_true rfl))⟩) hK hE hA hP hD hS 5 (T := TX3) (N := 8) (ci := 3) rfl rfl [5, 6, 7, 8, 9, 10, 11, 12] rfl (by decide) rfl rfl rfl rfl rfl rfl hl.1 (Nat.le_of_ble_eq_true rfl) dX4_operandByName_98 ⟨Nat.zero_le _, Nat.zero_le _⟩ (fun H locs hP hD hS => ?_)
    obtain ⟨r13, hcr13, hM⟩ := ob_use hM
    refine cl_V (As := [.int r12.1]) (rest := []) (wP cI ad r13.1 ++ wK cI ad o_tokens ++ wT cI ad r13.2) [] ⟨hx, hb, hml, hown, hts⟩ (c_Parser_nameNode l D cI sd ad r11 o_tokens r12.2 r12.1 r13 hcr13) (cwV2 hts q657 mvX4_nameNode rfl rfl ⟨(mxN (Nat.le_of_ble_eq_true rfl)), (mxN (Nat.le_of_ble_eq_true rfl))⟩) hK hE hA hP hD hS 0 (T := TX4) (N := 12) (ci := 4) rfl rfl [0, 1, 2, 3, 4, 5, 6, 7, 8, 9, 10, 11, 12] rfl (by decide) rfl rfl rfl rfl rfl rfl hl.1 (Nat.le_of_ble_eq_true rfl) dX4_operandByName_101 ⟨Nat.zero_le _, Nat.zero_le _⟩ (fun H locs hP hD hS => ?_)
    refine lv_goto (tgt := 198) hx hb dX4_operandByName_104 (by decide) ?_
    cases hM
    exact rt_v hx hb hr hlk hP hD hS rfl dX4_operandByName_198
  replace hM := if_f c10 hM
  by_cases c14 : r1.2.2.1 = 91
  · replace hM := if_t c14 hM
    refine lv_lookup (off := 34) (tgt := 48) hx hb dX4_operandByName_14 (by decide) (by rw [lv_osw c2 (by decide)]; rw [lv_osw c10 (by decide)]; exact sw_hit c14 (by decide)) (by decide) ?_
    refine lv_aload_n hx hb dX4_operandByName_48 rfl (lv_at hl 2 rfl) ?_
    refine va_get (D := D) (ci := 4) (v := .ref (ad 14)) (C := RX4) (T := TX4) (N := 12) hx hb hts layX4 hown hK hP 0 rfl rfl 1 (by decide) (hts _ (inA q398)) (fun _ h9 => h9) rfl dX4_operandByName_49 ?_
    refine lv_iload_n hx hb dX4_operandByName_52 rfl (lv_at hl 3 rfl) ?_
    refine lv_bipush (v := 32) hx hb dX4_operandByName_53 (by decide) ?_
    refine lv_iload_n hx hb dX4_operandByName_55 rfl (lv_at hl 1 rfl) ?_
    refine lv_iload_n hx hb dX4_operandByName_56 rfl (lv_at hl 0 rfl) ?_
    obtain ⟨r15, hcr15, hM⟩ := ob_use hM
    refine cl_V (As := [.int a1, .int 32, .int o_this.2.2.1, .int r1.1]) (rest := []) (wP cI ad r1.2 ++ wK cI ad o_tokens ++ wT cI ad r15.2) (.int r15.1 :: []) ⟨hx, hb, hml, hown, hts⟩ (c_Tree_add l D cI sd ad o_tree a1 32 o_this.2.2.1 r1.1 r15 hcr15) (cwV2 hts q622 mvX3_add rfl rfl ⟨(mxN (Nat.le_of_ble_eq_true rfl)), (mxN (Nat.le_of_ble_eq_true rfl))⟩) hK hE hA hP hD hS 5 (T := TX3) (N := 8) (ci := 3) rfl rfl [5, 6, 7, 8, 9, 10, 11, 12] rfl (by decide) rfl rfl rfl rfl rfl rfl hl.1 (Nat.le_of_ble_eq_true rfl) dX4_operandByName_57 ⟨Nat.zero_le _, Nat.zero_le _⟩ (fun H locs hP hD hS => ?_)
    refine lv_istore (lv' := [(4, .int r15.1), (3, .int r1.1), (2, .int o_this.2.2.1), (0, .ref (ad 22)), (1, .int a1)]) hx hb dX4_operandByName_60 hl (by decide) rfl (fun ls hl => ?_)
    refine lv_aload_n hx hb dX4_operandByName_62 rfl (lv_at hl 3 rfl) ?_
    obtain ⟨r16, hcr16, hM⟩ := ob_use hM
    refine cl_V (As := []) (rest := []) (wP cI ad r16 ++ wK cI ad o_tokens ++ wT cI ad r15.2) [] ⟨hx, hb, hml, hown, hts⟩ (c_Parser_takeOpening l D cI sd ad r1.2 o_tokens r16 hcr16) (cwV2 hts q715 mvX4_takeOpening rfl rfl ⟨(mxN (Nat.le_of_ble_eq_true rfl)), (mxN (Nat.le_of_ble_eq_true rfl))⟩) hK hE hA hP hD hS 0 (T := TX4) (N := 12) (ci := 4) rfl rfl [0, 1, 2, 3, 4] rfl (by decide) rfl rfl rfl rfl rfl rfl hl.1 (Nat.le_of_ble_eq_true rfl) dX4_operandByName_63 ⟨Nat.zero_le _, Nat.zero_le _⟩ (fun H locs hP hD hS => ?_)
    refine lv_aload_n hx hb dX4_operandByName_66 rfl (lv_at hl 3 rfl) ?_
    refine lv_iload hx hb dX4_operandByName_67 (lv_at hl 0 rfl) ?_
    refine lv_iconst (v := 0) hx hb dX4_operandByName_69 (by decide) ?_
    obtain ⟨r17, hcr17, hM⟩ := ob_use hM
    refine cl_V (As := [.int r15.1, .int 0]) (rest := []) (wP cI ad r17.1 ++ wK cI ad o_tokens ++ wT cI ad r17.2) [] ⟨hx, hb, hml, hown, hts⟩ (H_expression r16 o_tokens r15.2 r15.1 0 r17 hcr17) (cwV2 hts q727 mvX4_expression rfl rfl ⟨mxF0 (by decide), mxL0 (by decide)⟩) hK hE hA hP hD hS 0 (T := TX4) (N := 12) (ci := 4) rfl rfl [0, 1, 2, 3, 4, 5, 6, 7, 8, 9, 10, 11, 12] rfl (by decide) rfl rfl rfl rfl rfl rfl hl.1 (Nat.le_of_ble_eq_true rfl) dX4_operandByName_70 ⟨Nat.zero_le _, Nat.zero_le _⟩ (fun H locs hP hD hS => ?_)
    refine lv_aload_n hx hb dX4_operandByName_73 rfl (lv_at hl 3 rfl) ?_
    refine lv_bipush (v := 93) hx hb dX4_operandByName_74 (by decide) ?_
    obtain ⟨r18, hcr18, hM⟩ := ob_use hM
    refine cl_V (As := [.int 93]) (rest := []) (wP cI ad r18 ++ wK cI ad o_tokens ++ wT cI ad r17.2) [] ⟨hx, hb, hml, hown, hts⟩ (c_Parser_takeClosing l D cI sd ad r17.1 o_tokens 93 r18 hcr18) (cwV2 hts q735 mvX4_takeClosing rfl rfl ⟨(mxN (Nat.le_of_ble_eq_true rfl)), (mxN (Nat.le_of_ble_eq_true rfl))⟩) hK hE hA hP hD hS 0 (T := TX4) (N := 12) (ci := 4) rfl rfl [0, 1, 2, 3, 4] rfl (by decide) rfl rfl rfl rfl rfl rfl hl.1 (Nat.le_of_ble_eq_true rfl) dX4_operandByName_76 ⟨Nat.zero_le _, Nat.zero_le _⟩ (fun H locs hP hD hS => ?_)
    refine lv_goto (tgt := 198) hx hb dX4_operandByName_79 (by decide) ?_
    cases hM
    exact rt_v hx hb hr hlk hP hD hS rfl dX4_operandByName_198
  replace hM := if_f c14 hM
  refine lv_lookup (off := 171) (tgt := 185) hx hb dX4_operandByName_14 (by decide) (by rw [lv_osw c2 (by decide)]; rw [lv_osw c10 (by decide)]; rw [lv_osw c14 (by decide)]; rfl) (by decide) ?_
  refine lv_aload_n hx hb dX4_operandByName_185 rfl (lv_at hl 2 rfl) ?_
  refine va_get (D := D) (ci := 4) (v := .ref (ad 14)) (C := RX4) (T := TX4) (N := 12) hx hb hts layX4 hown hK hP 0 rfl rfl 1 (by decide) (hts _ (inA q398)) (fun _ h9 => h9) rfl dX4_operandByName_186 ?_
  refine lv_iload_n hx hb dX4_operandByName_189 rfl (lv_at hl 3 rfl) ?_
  refine lv_bipush (v := 6) hx hb dX4_operandByName_190 (by decide) ?_
  refine lv_iload_n hx hb dX4_operandByName_192 rfl (lv_at hl 1 rfl) ?_
  refine lv_iload_n hx hb dX4_operandByName_193 rfl (lv_at hl 0 rfl) ?_
  obtain ⟨r19, hcr19, hM⟩ := ob_use hM
  refine cl_V (As := [.int a1, .int 6, .int o_this.2.2.1, .int r1.1]) (rest := []) (wP cI ad r1.2 ++ wK cI ad o_tokens ++ wT cI ad r19.2) (.int r19.1 :: []) ⟨hx, hb, hml, hown, hts⟩ (c_Tree_add l D cI sd ad o_tree a1 6 o_this.2.2.1 r1.1 r19 hcr19) (cwV2 hts q622 mvX3_add rfl rfl ⟨(mxN (Nat.le_of_ble_eq_true rfl)), (mxN (Nat.le_of_ble_eq_true rfl))⟩) hK hE hA hP hD hS 5 (T := TX3) (N := 8) (ci := 3) rfl rfl [5, 6, 7, 8, 9, 10, 11, 12] rfl (by decide) rfl rfl rfl rfl rfl rfl hl.1 (Nat.le_of_ble_eq_true rfl) dX4_operandByName_194 ⟨Nat.zero_le _, Nat.zero_le _⟩ (fun H locs hP hD hS => ?_)
  refine lv_pop hx hb dX4_operandByName_197 rfl ?_
  cases hM
  exact rt_v hx hb hr hlk hP hD hS rfl dX4_operandByName_198

set_option maxHeartbeats 4000000 in
set_option maxRecDepth 100000 in
theorem c_Parser_operand_o (l : Launch) (D : va_G) (cI : ClassId) (sd : Nat → Nat) (ad : Nat → Nat) (fr lo : Nat) (f_operand : S_Parser → S_Tokens → S_Tree → Int32 → Option (S_Parser × S_Tree)) (f_expression : S_Parser → S_Tokens → S_Tree → Int32 → Int32 → Option (S_Parser × S_Tree)) (H_operand : ∀ (o_this : S_Parser) (o_tokens : S_Tokens) (o_tree : S_Tree) (a1 : Int32) (res : S_Parser × S_Tree), f_operand o_this o_tokens o_tree a1 = some res → Ctr l D cI sd yX4_operand (wsM yX4_operand cX4_operand 3 (Option.none : Option Jvm.ClassFile.FieldType)) { frames := fr, cells := 0, slots := 0, locals := lo } [.ref (ad 22), .int a1] (wP cI ad o_this ++ wK cI ad o_tokens ++ wT cI ad o_tree) (wP cI ad res.1 ++ wK cI ad o_tokens ++ wT cI ad res.2) none) (H_expression : ∀ (o_this : S_Parser) (o_tokens : S_Tokens) (o_tree : S_Tree) (a1 : Int32) (a2 : Int32) (res : S_Parser × S_Tree), f_expression o_this o_tokens o_tree a1 a2 = some res → Ctr l D cI sd yX4_expression (wsM yX4_expression cX4_expression 7 (Option.none : Option Jvm.ClassFile.FieldType)) { frames := fr, cells := 0, slots := 0, locals := lo } [.ref (ad 22), .int a1, .int a2] (wP cI ad o_this ++ wK cI ad o_tokens ++ wT cI ad o_tree) (wP cI ad res.1 ++ wK cI ad o_tokens ++ wT cI ad res.2) none) (o_this : S_Parser) (o_tokens : S_Tokens) (o_tree : S_Tree) (a1 : Int32) (res : S_Parser × S_Tree) (hM : f_Parser_operand_o f_operand f_expression o_this o_tokens o_tree a1 = some res) : Ctr l D cI sd yX4_operand (wsM yX4_operand cX4_operand 3 (Option.none : Option Jvm.ClassFile.FieldType)) { frames := max (fr + 2) 3, cells := 0, slots := 0, locals := max (lo + 53) 89 } [.ref (ad 22), .int a1] (wP cI ad o_this ++ wK cI ad o_tokens ++ wT cI ad o_tree) (wP cI ad res.1 ++ wK cI ad o_tokens ++ wT cI ad res.2) none := by
  refine Ctr.of (cc := cX4_operand) (maxL := 3) (own := RX4) (by decide +kernel) rfl rfl (Nat.le_of_ble_eq_true rfl) ?_
  intro p e s m below meth c A ls hx hb hr hml hown hts hlk hK hE hA hP hD hS hl
  have hl : lv_has ls 3 [(0, .ref (ad 22)), (1, .int a1)] := hl
  unfold f_Parser_operand_o at hM
  refine lv_aload_n hx hb dX4_operand_0 rfl (lv_at hl 0 rfl) ?_
  refine va_get (D := D) (ci := 4) (v := .int o_this.2.1) (C := RX4) (T := TX4) (N := 12) hx hb hts layX4 hown hK hP 0 rfl rfl 3 (by decide) (hts _ (inA q400)) (fun _ h9 => h9) rfl dX4_operand_1 ?_
  by_cases c1 : o_this.2.1 = 1
  · replace hM := if_t c1 hM
    refine lv_lookup (off := 115) (tgt := 119) hx hb dX4_operand_4 (by decide) (by exact sw_hit c1 (by decide)) (by decide) ?_
    refine lv_aload_n hx hb dX4_operand_119 rfl (lv_at hl 0 rfl) ?_
    refine lv_iload_n hx hb dX4_operand_120 rfl (lv_at hl 1 rfl) ?_
    obtain ⟨r2, hcr2, hM⟩ := ob_use hM
    refine cl_V (As := [.int a1]) (rest := []) (wP cI ad r2.1 ++ wK cI ad o_tokens ++ wT cI ad r2.2) [] ⟨hx, hb, hml, hown, hts⟩ (c_Parser_operandByName l D cI sd ad fr lo f_expression H_expression o_this o_tokens o_tree a1 r2 hcr2) (cwV2 hts q739 mvX4_operandByName rfl rfl ⟨mxF (by decide) (by decide), mxL (by decide) (by decide)⟩) hK hE hA hP hD hS 0 (T := TX4) (N := 12) (ci := 4) rfl rfl [0, 1, 2, 3, 4, 5, 6, 7, 8, 9, 10, 11, 12] rfl (by decide) rfl rfl rfl rfl rfl rfl hl.1 (Nat.le_of_ble_eq_true rfl) dX4_operand_121 ⟨Nat.zero_le _, Nat.zero_le _⟩ (fun H locs hP hD hS => ?_)
    refine lv_goto (tgt := 132) hx hb dX4_operand_124 (by decide) ?_
    cases hM
    exact rt_v hx hb hr hlk hP hD hS rfl dX4_operand_132
  replace hM := if_f c1 hM
  by_cases c3 : o_this.2.1 = 40
  · replace hM := if_t c3 hM
    refine lv_lookup (off := 96) (tgt := 100) hx hb dX4_operand_4 (by decide) (by rw [lv_osw c1 (by decide)]; exact sw_hit c3 (by decide)) (by decide) ?_
    refine lv_aload_n hx hb dX4_operand_100 rfl (lv_at hl 0 rfl) ?_
    obtain ⟨r4, hcr4, hM⟩ := ob_use hM
    refine cl_V (As := []) (rest := []) (wP cI ad r4 ++ wK cI ad o_tokens ++ wT cI ad o_tree) [] ⟨hx, hb, hml, hown, hts⟩ (c_Parser_takeOpening l D cI sd ad o_this o_tokens r4 hcr4) (cwV2 hts q715 mvX4_takeOpening rfl rfl ⟨(mxN (Nat.le_of_ble_eq_true rfl)), (mxN (Nat.le_of_ble_eq_true rfl))⟩) hK hE hA hP hD hS 0 (T := TX4) (N := 12) (ci := 4) rfl rfl [0, 1, 2, 3, 4] rfl (by decide) rfl rfl rfl rfl rfl rfl hl.1 (Nat.le_of_ble_eq_true rfl) dX4_operand_101 ⟨Nat.zero_le _, Nat.zero_le _⟩ (fun H locs hP hD hS => ?_)
    refine lv_aload_n hx hb dX4_operand_104 rfl (lv_at hl 0 rfl) ?_
    refine lv_iload_n hx hb dX4_operand_105 rfl (lv_at hl 1 rfl) ?_
    refine lv_iconst (v := 0) hx hb dX4_operand_106 (by decide) ?_
    obtain ⟨r5, hcr5, hM⟩ := ob_use hM
    refine cl_V (As := [.int a1, .int 0]) (rest := []) (wP cI ad r5.1 ++ wK cI ad o_tokens ++ wT cI ad r5.2) [] ⟨hx, hb, hml, hown, hts⟩ (H_expression r4 o_tokens o_tree a1 0 r5 hcr5) (cwV2 hts q727 mvX4_expression rfl rfl ⟨mxF0 (by decide), mxL0 (by decide)⟩) hK hE hA hP hD hS 0 (T := TX4) (N := 12) (ci := 4) rfl rfl [0, 1, 2, 3, 4, 5, 6, 7, 8, 9, 10, 11, 12] rfl (by decide) rfl rfl rfl rfl rfl rfl hl.1 (Nat.le_of_ble_eq_true rfl) dX4_operand_107 ⟨Nat.zero_le _, Nat.zero_le _⟩ (fun H locs hP hD hS => ?_)
    refine lv_aload_n hx hb dX4_operand_110 rfl (lv_at hl 0 rfl) ?_
    refine lv_bipush (v := 41) hx hb dX4_operand_111 (by decide) ?_
    obtain ⟨r6, hcr6, hM⟩ := ob_use hM
    refine cl_V (As := [.int 41]) (rest := []) (wP cI ad r6 ++ wK cI ad o_tokens ++ wT cI ad r5.2) [] ⟨hx, hb, hml, hown, hts⟩ (c_Parser_takeClosing l D cI sd ad r5.1 o_tokens 41 r6 hcr6) (cwV2 hts q735 mvX4_takeClosing rfl rfl ⟨(mxN (Nat.le_of_ble_eq_true rfl)), (mxN (Nat.le_of_ble_eq_true rfl))⟩) hK hE hA hP hD hS 0 (T := TX4) (N := 12) (ci := 4) rfl rfl [0, 1, 2, 3, 4] rfl (by decide) rfl rfl rfl rfl rfl rfl hl.1 (Nat.le_of_ble_eq_true rfl) dX4_operand_113 ⟨Nat.zero_le _, Nat.zero_le _⟩ (fun H locs hP hD hS => ?_)
    refine lv_goto (tgt := 132) hx hb dX4_operand_116 (by decide) ?_
    cases hM
    exact rt_v hx hb hr hlk hP hD hS rfl dX4_operand_132
  replace hM := if_f c3 hM
  by_cases c7 : o_this.2.1 = 45
  · replace hM := if_t c7 hM
    refine lv_lookup (off := 44) (tgt := 48) hx hb dX4_operand_4 (by decide) (by rw [lv_osw c1 (by decide)]; rw [lv_osw c3 (by decide)]; exact sw_hit c7 (by decide)) (by decide) ?_
    refine lv_aload_n hx hb dX4_operand_48 rfl (lv_at hl 0 rfl) ?_
    refine va_get (D := D) (ci := 4) (v := .ref (ad 14)) (C := RX4) (T := TX4) (N := 12) hx hb hts layX4 hown hK hP 0 rfl rfl 1 (by decide) (hts _ (inA q398)) (fun _ h9 => h9) rfl dX4_operand_49 ?_
    refine lv_iload_n hx hb dX4_operand_52 rfl (lv_at hl 1 rfl) ?_
    refine lv_bipush (v := 36) hx hb dX4_operand_53 (by decide) ?_
    refine lv_aload_n hx hb dX4_operand_55 rfl (lv_at hl 0 rfl) ?_
    refine va_get (D := D) (ci := 4) (v := .int o_this.2.2.1) (C := RX4) (T := TX4) (N := 12) hx hb hts layX4 hown hK hP 0 rfl rfl 4 (by decide) (hts _ (inA q401)) (fun _ h9 => h9) rfl dX4_operand_56 ?_
    refine lv_aload_n hx hb dX4_operand_59 rfl (lv_at hl 0 rfl) ?_
    refine va_get (D := D) (ci := 4) (v := .int o_this.2.1) (C := RX4) (T := TX4) (N := 12) hx hb hts layX4 hown hK hP 0 rfl rfl 3 (by decide) (hts _ (inA q400)) (fun _ h9 => h9) rfl dX4_operand_60 ?_
    refine lv_sipush (v := 290) hx hb dX4_operand_63 (by decide) ?_
    refine lv_icmp_ne (tgt := 73) hx hb dX4_operand_66 (by decide) (fun c8 => ?_) (fun c8 => ?_)
    · replace hM := if_f c8 hM
      refine lv_iconst (v := 0) hx hb dX4_operand_73 (by decide) ?_
      obtain ⟨r9, hcr9, hM⟩ := ob_use hM
      refine cl_V (As := [.int a1, .int 36, .int o_this.2.2.1, .int 0]) (rest := []) (wP cI ad o_this ++ wK cI ad o_tokens ++ wT cI ad r9.2) (.int r9.1 :: []) ⟨hx, hb, hml, hown, hts⟩ (c_Tree_add l D cI sd ad o_tree a1 36 o_this.2.2.1 0 r9 hcr9) (cwV2 hts q622 mvX3_add rfl rfl ⟨(mxN (Nat.le_of_ble_eq_true rfl)), (mxN (Nat.le_of_ble_eq_true rfl))⟩) hK hE hA hP hD hS 5 (T := TX3) (N := 8) (ci := 3) rfl rfl [5, 6, 7, 8, 9, 10, 11, 12] rfl (by decide) rfl rfl rfl rfl rfl rfl hl.1 (Nat.le_of_ble_eq_true rfl) dX4_operand_74 ⟨Nat.zero_le _, Nat.zero_le _⟩ (fun H locs hP hD hS => ?_)
      refine lv_istore_n (lv' := [(2, .int r9.1), (0, .ref (ad 22)), (1, .int a1)]) hx hb dX4_operand_77 rfl hl (by decide) rfl (fun ls hl => ?_)
      refine lv_aload_n hx hb dX4_operand_78 rfl (lv_at hl 1 rfl) ?_
      obtain ⟨r10, hcr10, hM⟩ := ob_use hM
      refine cl_V (As := []) (rest := []) (wP cI ad r10 ++ wK cI ad o_tokens ++ wT cI ad r9.2) [] ⟨hx, hb, hml, hown, hts⟩ (c_Parser_takeOpening l D cI sd ad o_this o_tokens r10 hcr10) (cwV2 hts q715 mvX4_takeOpening rfl rfl ⟨(mxN (Nat.le_of_ble_eq_true rfl)), (mxN (Nat.le_of_ble_eq_true rfl))⟩) hK hE hA hP hD hS 0 (T := TX4) (N := 12) (ci := 4) rfl rfl [0, 1, 2, 3, 4] rfl (by decide) rfl rfl rfl rfl rfl rfl hl.1 (Nat.le_of_ble_eq_true rfl) dX4_operand_79 ⟨Nat.zero_le _, Nat.zero_le _⟩ (fun H locs hP hD hS => ?_)
      refine lv_aload_n hx hb dX4_operand_82 rfl (lv_at hl 1 rfl) ?_
      refine lv_iload_n hx hb dX4_operand_83 rfl (lv_at hl 0 rfl) ?_
      obtain ⟨r11, hcr11, hM⟩ := ob_use hM
      refine cl_V (As := [.int r9.1]) (rest := []) (wP cI ad r11.1 ++ wK cI ad o_tokens ++ wT cI ad r11.2) [] ⟨hx, hb, hml, hown, hts⟩ (H_operand r10 o_tokens r9.2 r9.1 r11 hcr11) (cwV2 hts q731 mvX4_operand rfl rfl ⟨mxF0 (by decide), mxL0 (by decide)⟩) hK hE hA hP hD hS 0 (T := TX4) (N := 12) (ci := 4) rfl rfl [0, 1, 2, 3, 4, 5, 6, 7, 8, 9, 10, 11, 12] rfl (by decide) rfl rfl rfl rfl rfl rfl hl.1 (Nat.le_of_ble_eq_true rfl) dX4_operand_84 ⟨Nat.zero_le _, Nat.zero_le _⟩ (fun H locs hP hD hS => ?_)
      refine lv_aload_n hx hb dX4_operand_87 rfl (lv_at hl 1 rfl) ?_
      refine lv_dup hx hb dX4_operand_88 rfl ?_
      refine va_get (D := D) (ci := 4) (v := .int r11.1.2.2.2.2.2.2.1) (C := RX4) (T := TX4) (N := 12) hx hb hts layX4 hown hK hP 0 rfl rfl 8 (by decide) (hts _ (inA q405)) (fun _ h9 => h9) rfl dX4_operand_89 ?_
      refine lv_iconst (v := 1) hx hb dX4_operand_92 (by decide) ?_
      refine lv_isub hx hb dX4_operand_93 ?_
      refine va_put (D := D) (ci := 4) (v := .int (r11.1.2.2.2.2.2.2.1 - 1)) (ty := .int) (C := RX4) (T := TX4) (N := 12) hx hb hts layX4 tyX4 tyX4_ok nmX4 hown hK hP hD hS 0 rfl rfl 8 (by decide) (hts _ (inA q405)) (fun _ h9 => h9) rfl (by decide +kernel) rfl rfl (Nat.le_of_ble_eq_true rfl) dX4_operand_94 (fun H locs hP hD hS => ?_)
      have hP : va_P D vwCl (wP cI ad (r11.1.1, r11.1.2.1, r11.1.2.2.1, r11.1.2.2.2.1, r11.1.2.2.2.2.1, r11.1.2.2.2.2.2.1, r11.1.2.2.2.2.2.2.1 - 1, r11.1.2.2.2.2.2.2.2) ++ wK cI ad o_tokens ++ wT cI ad r11.2) H := hP
      have hD : va_D A (wP cI ad (r11.1.1, r11.1.2.1, r11.1.2.2.1, r11.1.2.2.2.1, r11.1.2.2.2.2.1, r11.1.2.2.2.2.2.1, r11.1.2.2.2.2.2.2.1 - 1, r11.1.2.2.2.2.2.2.2) ++ wK cI ad o_tokens ++ wT cI ad r11.2) := hD
      refine lv_goto (tgt := 132) hx hb dX4_operand_97 (by decide) ?_
      cases hM
      exact rt_v hx hb hr hlk hP hD hS rfl dX4_operand_132
    · replace hM := if_t c8 hM
      refine lv_iconst (v := 1) hx hb dX4_operand_69 (by decide) ?_
      refine lv_goto (tgt := 74) hx hb dX4_operand_70 (by decide) ?_
      obtain ⟨r12, hcr12, hM⟩ := ob_use hM
      refine cl_V (As := [.int a1, .int 36, .int o_this.2.2.1, .int 1]) (rest := []) (wP cI ad o_this ++ wK cI ad o_tokens ++ wT cI ad r12.2) (.int r12.1 :: []) ⟨hx, hb, hml, hown, hts⟩ (c_Tree_add l D cI sd ad o_tree a1 36 o_this.2.2.1 1 r12 hcr12) (cwV2 hts q622 mvX3_add rfl rfl ⟨(mxN (Nat.le_of_ble_eq_true rfl)), (mxN (Nat.le_of_ble_eq_true rfl))⟩) hK hE hA hP hD hS 5 (T := TX3) (N := 8) (ci := 3) rfl rfl [5, 6, 7, 8, 9, 10, 11, 12] rfl (by decide) rfl rfl rfl rfl rfl rfl hl.1 (Nat.le_of_ble_eq_true rfl) dX4_operand_74 ⟨Nat.zero_le _, Nat.zero_le _⟩ (fun H locs hP hD hS => ?_)
      refine lv_istore_n (lv' := [(2, .int r12.1), (0, .ref (ad 22)), (1, .int a1)]) hx hb dX4_operand_77 rfl hl (by decide) rfl (fun ls hl => ?_)
      refine lv_aload_n hx hb dX4_operand_78 rfl (lv_at hl 1 rfl) ?_
      obtain ⟨r13, hcr13, hM⟩ := ob_use hM
      refine cl_V (As := []) (rest := []) (wP cI ad r13 ++ wK cI ad o_tokens ++ wT cI ad r12.2) [] ⟨hx, hb, hml, hown, hts⟩ (c_Parser_takeOpening l D cI sd ad o_this o_tokens r13 hcr13) (cwV2 hts q715 mvX4_takeOpening rfl rfl ⟨(mxN (Nat.le_of_ble_eq_true rfl)), (mxN (Nat.le_of_ble_eq_true rfl))⟩) hK hE hA hP hD hS 0 (T := TX4) (N := 12) (ci := 4) rfl rfl [0, 1, 2, 3, 4] rfl (by decide) rfl rfl rfl rfl rfl rfl hl.1 (Nat.le_of_ble_eq_true rfl) dX4_operand_79 ⟨Nat.zero_le _, Nat.zero_le _⟩ (fun H locs hP hD hS => ?_)
      refine lv_aload_n hx hb dX4_operand_82 rfl (lv_at hl 1 rfl) ?_
      refine lv_iload_n hx hb dX4_operand_83 rfl (lv_at hl 0 rfl) ?_
      obtain ⟨r14, hcr14, hM⟩ := ob_use hM
      refine cl_V (As := [.int r12.1]) (rest := []) (wP cI ad r14.1 ++ wK cI ad o_tokens ++ wT cI ad r14.2) [] ⟨hx, hb, hml, hown, hts⟩ (H_operand r13 o_tokens r12.2 r12.1 r14 hcr14) (cwV2 hts q731 mvX4_operand rfl rfl ⟨mxF0 (by decide), mxL0 (by decide)⟩) hK hE hA hP hD hS 0 (T := TX4) (N := 12) (ci := 4) rfl rfl [0, 1, 2, 3, 4, 5, 6, 7, 8, 9, 10, 11, 12] rfl (by decide) rfl rfl rfl rfl rfl rfl hl.1 (Nat.le_of_ble_eq_true rfl) dX4_operand_84 ⟨Nat.zero_le _, Nat.zero_le _⟩ (fun H locs hP hD hS => ?_)
      refine lv_aload_n hx hb dX4_operand_87 rfl (lv_at hl 1 rfl) ?_
      refine lv_dup hx hb dX4_operand_88 rfl ?_
      refine va_get (D := D) (ci := 4) (v := .int r14.1.2.2.2.2.2.2.1) (C := RX4) (T := TX4) (N := 12) hx hb hts layX4 hown hK hP 0 rfl rfl 8 (by decide) (hts _ (inA q405)) (fun _ h9 => h9) rfl dX4_operand_89 ?_
      refine lv_iconst (v := 1) hx hb dX4_operand_92 (by decide) ?_
      refine lv_isub hx hb dX4_operand_93 ?_
      refine va_put (D := D) (ci := 4) (v := .int (r14.1.2.2.2.2.2.2.1 - 1)) (ty := .int) (C := RX4) (T := TX4) (N := 12) hx hb hts layX4 tyX4 tyX4_ok nmX4 hown hK hP hD hS 0 rfl rfl 8 (by decide) (hts _ (inA q405)) (fun _ h9 => h9) rfl (by decide +kernel) rfl rfl (Nat.le_of_ble_eq_true rfl) dX4_operand_94 (fun H locs hP hD hS => ?_)
      have hP : va_P D vwCl (wP cI ad (r14.1.1, r14.1.2.1, r14.1.2.2.1, r14.1.2.2.2.1, r14.1.2.2.2.2.1, r14.1.2.2.2.2.2.1, r14.1.2.2.2.2.2.2.1 - 1, r14.1.2.2.2.2.2.2.2) ++ wK cI ad o_tokens ++ wT cI ad r14.2) H := hP
      have hD : va_D A (wP cI ad (r14.1.1, r14.1.2.1, r14.1.2.2.1, r14.1.2.2.2.1, r14.1.2.2.2.2.1, r14.1.2.2.2.2.2.1, r14.1.2.2.2.2.2.2.1 - 1, r14.1.2.2.2.2.2.2.2) ++ wK cI ad o_tokens ++ wT cI ad r14.2) := hD
      refine lv_goto (tgt := 132) hx hb dX4_operand_97 (by decide) ?_
      cases hM
      exact rt_v hx hb hr hlk hP hD hS rfl dX4_operand_132
  replace hM := if_f c7 hM
  by_cases c15 : o_this.2.1 = 290
  · replace hM := if_t c15 hM
    refine lv_lookup (off := 44) (tgt := 48) hx hb dX4_operand_4 (by decide) (by rw [lv_osw c1 (by decide)]; rw [lv_osw c3 (by decide)]; rw [lv_osw c7 (by decide)]; exact sw_hit c15 (by decide)) (by decide) ?_
    refine lv_aload_n hx hb dX4_operand_48 rfl (lv_at hl 0 rfl) ?_
    refine va_get (D := D) (ci := 4) (v := .ref (ad 14)) (C := RX4) (T := TX4) (N := 12) hx hb hts layX4 hown hK hP 0 rfl rfl 1 (by decide) (hts _ (inA q398)) (fun _ h9 => h9) rfl dX4_operand_49 ?_
    refine lv_iload_n hx hb dX4_operand_52 rfl (lv_at hl 1 rfl) ?_
    refine lv_bipush (v := 36) hx hb dX4_operand_53 (by decide) ?_
    refine lv_aload_n hx hb dX4_operand_55 rfl (lv_at hl 0 rfl) ?_
    refine va_get (D := D) (ci := 4) (v := .int o_this.2.2.1) (C := RX4) (T := TX4) (N := 12) hx hb hts layX4 hown hK hP 0 rfl rfl 4 (by decide) (hts _ (inA q401)) (fun _ h9 => h9) rfl dX4_operand_56 ?_
    refine lv_aload_n hx hb dX4_operand_59 rfl (lv_at hl 0 rfl) ?_
    refine va_get (D := D) (ci := 4) (v := .int o_this.2.1) (C := RX4) (T := TX4) (N := 12) hx hb hts layX4 hown hK hP 0 rfl rfl 3 (by decide) (hts _ (inA q400)) (fun _ h9 => h9) rfl dX4_operand_60 ?_
    refine lv_sipush (v := 290) hx hb dX4_operand_63 (by decide) ?_
    refine lv_icmp_ne (tgt := 73) hx hb dX4_operand_66 (by decide) (fun c16 => ?_) (fun c16 => ?_)
    · replace hM := if_f c16 hM
      refine lv_iconst (v := 0) hx hb dX4_operand_73 (by decide) ?_
      obtain ⟨r17, hcr17, hM⟩ := ob_use hM
      refine cl_V (As := [.int a1, .int 36, .int o_this.2.2.1, .int 0]) (rest := []) (wP cI ad o_this ++ wK cI ad o_tokens ++ wT cI ad r17.2) (.int r17.1 :: []) ⟨hx, hb, hml, hown, hts⟩ (c_Tree_add l D cI sd ad o_tree a1 36 o_this.2.2.1 0 r17 hcr17) (cwV2 hts q622 mvX3_add rfl rfl ⟨(mxN (Nat.le_of_ble_eq_true rfl)), (mxN (Nat.le_of_ble_eq_true rfl))⟩) hK hE hA hP hD hS 5 (T := TX3) (N := 8) (ci := 3) rfl rfl [5, 6, 7, 8, 9, 10, 11, 12] rfl (by decide) rfl rfl rfl rfl rfl rfl hl.1 (Nat.le_of_ble_eq_true rfl) dX4_operand_74 ⟨Nat.zero_le _, Nat.zero_le _⟩ (fun H locs hP hD hS => ?_)
      refine lv_istore_n (lv' := [(2, .int r17.1), (0, .ref (ad 22)), (1, .int a1)]) hx hb dX4_operand_77 rfl hl (by decide) rfl (fun ls hl => ?_)
      refine lv_aload_n hx hb dX4_operand_78 rfl (lv_at hl 1 rfl) ?_
      obtain ⟨r18, hcr18, hM⟩ := ob_use hM
      refine cl_V (As := []) (rest := []) (wP cI ad r18 ++ wK cI ad o_tokens ++ wT cI ad r17.2) [] ⟨hx, hb, hml, hown, hts⟩ (c_Parser_takeOpening l D cI sd ad o_this o_tokens r18 hcr18) (cwV2 hts q715 mvX4_takeOpening rfl rfl ⟨(mxN (Nat.le_of_ble_eq_true rfl)), (mxN (Nat.le_of_ble_eq_true rfl))⟩) hK hE hA hP hD hS 0 (T := TX4) (N := 12) (ci := 4) rfl rfl [0, 1, 2, 3, 4] rfl (by decide) rfl rfl rfl rfl rfl rfl hl.1 (Nat.le_of_ble_eq_true rfl) dX4_operand_79 ⟨Nat.zero_le _, Nat.zero_le _⟩ (fun H locs hP hD hS => ?_)
      refine lv_aload_n hx hb dX4_operand_82 rfl (lv_at hl 1 rfl) ?_
      refine lv_iload_n hx hb dX4_operand_83 rfl (lv_at hl 0 rfl) ?_
      obtain ⟨r19, hcr19, hM⟩ := ob_use hM
      refine cl_V (As := [.int r17.1]) (rest := []) (wP cI ad r19.1 ++ wK cI ad o_tokens ++ wT cI ad r19.2) [] ⟨hx, hb, hml, hown, hts⟩ (H_operand r18 o_tokens r17.2 r17.1 r19 hcr19) (cwV2 hts q731 mvX4_operand rfl rfl ⟨mxF0 (by decide), mxL0 (by decide)⟩) hK hE hA hP hD hS 0 (T := TX4) (N := 12) (ci := 4) rfl rfl [0, 1, 2, 3, 4, 5, 6, 7, 8, 9, 10, 11, 12] rfl (by decide) rfl rfl rfl rfl rfl rfl hl.1 (Nat.le_of_ble_eq_true rfl) dX4_operand_84 ⟨Nat.zero_le _, Nat.zero_le _⟩ (fun H locs hP hD hS => ?_)
      refine lv_aload_n hx hb dX4_operand_87 rfl (lv_at hl 1 rfl) ?_
      refine lv_dup hx hb dX4_operand_88 rfl ?_
      refine va_get (D := D) (ci := 4) (v := .int r19.1.2.2.2.2.2.2.1) (C := RX4) (T := TX4) (N := 12) hx hb hts layX4 hown hK hP 0 rfl rfl 8 (by decide) (hts _ (inA q405)) (fun _ h9 => h9) rfl dX4_operand_89 ?_
      refine lv_iconst (v := 1) hx hb dX4_operand_92 (by decide) ?_
      refine lv_isub hx hb dX4_operand_93 ?_
      refine va_put (D := D) (ci := 4) (v := .int (r19.1.2.2.2.2.2.2.1 - 1)) (ty := .int) (C := RX4) (T := TX4) (N := 12) hx hb hts layX4 tyX4 tyX4_ok nmX4 hown hK hP hD hS 0 rfl rfl 8 (by decide) (hts _ (inA q405)) (fun _ h9 => h9) rfl (by decide +kernel) rfl rfl (Nat.le_of_ble_eq_true rfl) dX4_operand_94 (fun H locs hP hD hS => ?_)
      have hP : va_P D vwCl (wP cI ad (r19.1.1, r19.1.2.1, r19.1.2.2.1, r19.1.2.2.2.1, r19.1.2.2.2.2.1, r19.1.2.2.2.2.2.1, r19.1.2.2.2.2.2.2.1 - 1, r19.1.2.2.2.2.2.2.2) ++ wK cI ad o_tokens ++ wT cI ad r19.2) H := hP
      have hD : va_D A (wP cI ad (r19.1.1, r19.1.2.1, r19.1.2.2.1, r19.1.2.2.2.1, r19.1.2.2.2.2.1, r19.1.2.2.2.2.2.1, r19.1.2.2.2.2.2.2.1 - 1, r19.1.2.2.2.2.2.2.2) ++ wK cI ad o_tokens ++ wT cI ad r19.2) := hD
      refine lv_goto (tgt := 132) hx hb dX4_operand_97 (by decide) ?_
      cases hM
      exact rt_v hx hb hr hlk hP hD hS rfl dX4_operand_132
    · replace hM := if_t c16 hM
      refine lv_iconst (v := 1) hx hb dX4_operand_69 (by decide) ?_
      refine lv_goto (tgt := 74) hx hb dX4_operand_70 (by decide) ?_
      obtain ⟨r20, hcr20, hM⟩ := ob_use hM
      refine cl_V (As := [.int a1, .int 36, .int o_this.2.2.1, .int 1]) (rest := []) (wP cI ad o_this ++ wK cI ad o_tokens ++ wT cI ad r20.2) (.int r20.1 :: []) ⟨hx, hb, hml, hown, hts⟩ (c_Tree_add l D cI sd ad o_tree a1 36 o_this.2.2.1 1 r20 hcr20) (cwV2 hts q622 mvX3_add rfl rfl ⟨(mxN (Nat.le_of_ble_eq_true rfl)), (mxN (Nat.le_of_ble_eq_true rfl))⟩) hK hE hA hP hD hS 5 (T := TX3) (N := 8) (ci := 3) rfl rfl [5, 6, 7, 8, 9, 10, 11, 12] rfl (by decide) rfl rfl rfl rfl rfl rfl hl.1 (Nat.le_of_ble_eq_true rfl) dX4_operand_74 ⟨Nat.zero_le _, Nat.zero_le _⟩ (fun H locs hP hD hS => ?_)
      refine lv_istore_n (lv' := [(2, .int r20.1), (0, .ref (ad 22)), (1, .int a1)]) hx hb dX4_operand_77 rfl hl (by decide) rfl (fun ls hl => ?_)
      refine lv_aload_n hx hb dX4_operand_78 rfl (lv_at hl 1 rfl) ?_
      obtain ⟨r21, hcr21, hM⟩ := ob_use hM
      refine cl_V (As := []) (rest := []) (wP cI ad r21 ++ wK cI ad o_tokens ++ wT cI ad r20.2) [] ⟨hx, hb, hml, hown, hts⟩ (c_Parser_takeOpening l D cI sd ad o_this o_tokens r21 hcr21) (cwV2 hts q715 mvX4_takeOpening rfl rfl ⟨(mxN (Nat.le_of_ble_eq_true rfl)), (mxN (Nat.le_of_ble_eq_true rfl))⟩) hK hE hA hP hD hS 0 (T := TX4) (N := 12) (ci := 4) rfl rfl [0, 1, 2, 3, 4] rfl (by decide) rfl rfl rfl rfl rfl rfl hl.1 (Nat.le_of_ble_eq_true rfl) dX4_operand_79 ⟨Nat.zero_le _, Nat.zero_le _⟩ (fun H locs hP hD hS => ?_)
      refine lv_aload_n hx hb dX4_operand_82 rfl (lv_at hl 1 rfl) ?_
      refine lv_iload_n hx hb dX4_operand_83 rfl (lv_at hl 0 rfl) ?_
      obtain ⟨r22, hcr22, hM⟩ := ob_use hM
      refine cl_V (As := [.int r20.1]) (rest := []) (wP cI ad r22.1 ++ wK cI ad o_tokens ++ wT cI ad r22.2) [] ⟨hx, hb, hml, hown, hts⟩ (H_operand r21 o_tokens r20.2 r20.1 r22 hcr22) (cwV2 hts q731 mvX4_operand rfl rfl ⟨mxF0 (by decide), mxL0 (by decide)⟩) hK hE hA hP hD hS 0 (T := TX4) (N := 12) (ci := 4) rfl rfl [0, 1, 2, 3, 4, 5, 6, 7, 8, 9, 10, 11, 12] rfl (by decide) rfl rfl rfl rfl rfl rfl hl.1 (Nat.le_of_ble_eq_true rfl) dX4_operand_84 ⟨Nat.zero_le _, Nat.zero_le _⟩ (fun H locs hP hD hS => ?_)
      refine lv_aload_n hx hb dX4_operand_87 rfl (lv_at hl 1 rfl) ?_
      refine lv_dup hx hb dX4_operand_88 rfl ?_
      refine va_get (D := D) (ci := 4) (v := .int r22.1.2.2.2.2.2.2.1) (C := RX4) (T := TX4) (N := 12) hx hb hts layX4 hown hK hP 0 rfl rfl 8 (by decide) (hts _ (inA q405)) (fun _ h9 => h9) rfl dX4_operand_89 ?_
      refine lv_iconst (v := 1) hx hb dX4_operand_92 (by decide) ?_
      refine lv_isub hx hb dX4_operand_93 ?_
      refine va_put (D := D) (ci := 4) (v := .int (r22.1.2.2.2.2.2.2.1 - 1)) (ty := .int) (C := RX4) (T := TX4) (N := 12) hx hb hts layX4 tyX4 tyX4_ok nmX4 hown hK hP hD hS 0 rfl rfl 8 (by decide) (hts _ (inA q405)) (fun _ h9 => h9) rfl (by decide +kernel) rfl rfl (Nat.le_of_ble_eq_true rfl) dX4_operand_94 (fun H locs hP hD hS => ?_)
      have hP : va_P D vwCl (wP cI ad (r22.1.1, r22.1.2.1, r22.1.2.2.1, r22.1.2.2.2.1, r22.1.2.2.2.2.1, r22.1.2.2.2.2.2.1, r22.1.2.2.2.2.2.2.1 - 1, r22.1.2.2.2.2.2.2.2) ++ wK cI ad o_tokens ++ wT cI ad r22.2) H := hP
      have hD : va_D A (wP cI ad (r22.1.1, r22.1.2.1, r22.1.2.2.1, r22.1.2.2.2.1, r22.1.2.2.2.2.1, r22.1.2.2.2.2.2.1, r22.1.2.2.2.2.2.2.1 - 1, r22.1.2.2.2.2.2.2.2) ++ wK cI ad o_tokens ++ wT cI ad r22.2) := hD
      refine lv_goto (tgt := 132) hx hb dX4_operand_97 (by decide) ?_
      cases hM
      exact rt_v hx hb hr hlk hP hD hS rfl dX4_operand_132
  replace hM := if_f c15 hM
  refine lv_lookup (off := 123) (tgt := 127) hx hb dX4_operand_4 (by decide) (by rw [lv_osw c1 (by decide)]; rw [lv_osw c3 (by decide)]; rw [lv_osw c7 (by decide)]; rw [lv_osw c15 (by decide)]; rfl) (by decide) ?_
  refine lv_aload_n hx hb dX4_operand_127 rfl (lv_at hl 0 rfl) ?_
  refine lv_iload_n hx hb dX4_operand_128 rfl (lv_at hl 1 rfl) ?_
  obtain ⟨r23, hcr23, hM⟩ := ob_use hM
  refine cl_V (As := [.int a1]) (rest := []) (wP cI ad r23.1 ++ wK cI ad o_tokens ++ wT cI ad r23.2) [] ⟨hx, hb, hml, hown, hts⟩ (c_Parser_literal l D cI sd ad o_this o_tokens o_tree a1 r23 hcr23) (cwV2 hts q669 mvX4_literal rfl rfl ⟨(mxN (Nat.le_of_ble_eq_true rfl)), (mxN (Nat.le_of_ble_eq_true rfl))⟩) hK hE hA hP hD hS 0 (T := TX4) (N := 12) (ci := 4) rfl rfl [0, 1, 2, 3, 4, 5, 6, 7, 8, 9, 10, 11, 12] rfl (by decide) rfl rfl rfl rfl rfl rfl hl.1 (Nat.le_of_ble_eq_true rfl) dX4_operand_129 ⟨Nat.zero_le _, Nat.zero_le _⟩ (fun H locs hP hD hS => ?_)
  cases hM
  exact rt_v hx hb hr hlk hP hD hS rfl dX4_operand_132

def frE : Nat → Nat
  | 0 => 0
  | d + 1 => max (frE d + 2) 3
def loE : Nat → Nat
  | 0 => 0
  | d + 1 => max (loE d + 53) 89
set_option maxHeartbeats 4000000 in
set_option maxRecDepth 100000 in
theorem c_GE (l : Launch) (D : va_G) (cI : ClassId) (sd ad : Nat → Nat) : ∀ d : Nat, (∀ (o_this : S_Parser) (o_tokens : S_Tokens) (o_tree : S_Tree) (a1 : Int32) (a2 : Int32) (res : S_Parser × S_Tree), (GE d).1 o_this o_tokens o_tree a1 a2 = some res → Ctr l D cI sd yX4_expression (wsM yX4_expression cX4_expression 7 (Option.none : Option Jvm.ClassFile.FieldType)) { frames := frE d, cells := 0, slots := 0, locals := loE d } [.ref (ad 22), .int a1, .int a2] (wP cI ad o_this ++ wK cI ad o_tokens ++ wT cI ad o_tree) (wP cI ad res.1 ++ wK cI ad o_tokens ++ wT cI ad res.2) none) ∧ (∀ (o_this : S_Parser) (o_tokens : S_Tokens) (o_tree : S_Tree) (a1 : Int32) (res : S_Parser × S_Tree), (GE d).2 o_this o_tokens o_tree a1 = some res → Ctr l D cI sd yX4_operand (wsM yX4_operand cX4_operand 3 (Option.none : Option Jvm.ClassFile.FieldType)) { frames := frE d, cells := 0, slots := 0, locals := loE d } [.ref (ad 22), .int a1] (wP cI ad o_this ++ wK cI ad o_tokens ++ wT cI ad o_tree) (wP cI ad res.1 ++ wK cI ad o_tokens ++ wT cI ad res.2) none) := by
  intro d
  induction d with
  | zero => exact ⟨fun x1 x2 x3 a0 a1 res h => absurd (show none = some res from h) (by simp), fun x1 x2 x3 a0 res h => absurd (show none = some res from h) (by simp)⟩
  | succ d ih => exact ⟨fun x1 x2 x3 a0 a1 res h => c_Parser_expression_o l D cI sd ad (frE d) (loE d) (GE d).2 (GE d).1 ih.2 ih.1 x1 x2 x3 a0 a1 res h, fun x1 x2 x3 a0 res h => c_Parser_operand_o l D cI sd ad (frE d) (loE d) (GE d).2 (GE d).1 ih.2 ih.1 x1 x2 x3 a0 res h⟩
theorem frE_e : frE DE = 261 := by decide +kernel
theorem loE_e : loE DE = 6926 := by decide +kernel
set_option maxHeartbeats 4000000 in
theorem c_Parser_expression (l : Launch) (D : va_G) (cI : ClassId) (sd ad : Nat → Nat) : ∀ (o_this : S_Parser) (o_tokens : S_Tokens) (o_tree : S_Tree) (a1 : Int32) (a2 : Int32) (res : S_Parser × S_Tree), f_Parser_expression o_this o_tokens o_tree a1 a2 = some res → Ctr l D cI sd yX4_expression (wsM yX4_expression cX4_expression 7 (Option.none : Option Jvm.ClassFile.FieldType)) { frames := 261, cells := 0, slots := 0, locals := 6926 } [.ref (ad 22), .int a1, .int a2] (wP cI ad o_this ++ wK cI ad o_tokens ++ wT cI ad o_tree) (wP cI ad res.1 ++ wK cI ad o_tokens ++ wT cI ad res.2) none := by
  have h := c_GE l D cI sd ad DE
  rw [frE_e, loE_e] at h
  exact h.1
set_option maxHeartbeats 4000000 in
theorem c_Parser_operand (l : Launch) (D : va_G) (cI : ClassId) (sd ad : Nat → Nat) : ∀ (o_this : S_Parser) (o_tokens : S_Tokens) (o_tree : S_Tree) (a1 : Int32) (res : S_Parser × S_Tree), f_Parser_operand o_this o_tokens o_tree a1 = some res → Ctr l D cI sd yX4_operand (wsM yX4_operand cX4_operand 3 (Option.none : Option Jvm.ClassFile.FieldType)) { frames := 261, cells := 0, slots := 0, locals := 6926 } [.ref (ad 22), .int a1] (wP cI ad o_this ++ wK cI ad o_tokens ++ wT cI ad o_tree) (wP cI ad res.1 ++ wK cI ad o_tokens ++ wT cI ad res.2) none := by
  have h := c_GE l D cI sd ad DE
  rw [frE_e, loE_e] at h
  exact h.2

set_option maxHeartbeats 4000000 in
set_option maxRecDepth 100000 in
theorem c_Parser_outermostExpression (l : Launch) (D : va_G) (cI : ClassId) (sd : Nat → Nat) (ad : Nat → Nat) (o_this : S_Parser) (o_tokens : S_Tokens) (o_tree : S_Tree) (a1 : Int32) (res : S_Parser × S_Tree) (hM : f_Parser_outermostExpression o_this o_tokens o_tree a1 = some res) : Ctr l D cI sd yX4_outermostExpression (wsM yX4_outermostExpression cX4_outermostExpression 2 (Option.none : Option Jvm.ClassFile.FieldType)) { frames := 262, cells := 0, slots := 0, locals := 6952 } [.ref (ad 22), .int a1] (wP cI ad o_this ++ wK cI ad o_tokens ++ wT cI ad o_tree) (wP cI ad res.1 ++ wK cI ad o_tokens ++ wT cI ad res.2) none := by
  refine Ctr.of (cc := cX4_outermostExpression) (maxL := 2) (own := RX4) (by decide +kernel) rfl rfl (Nat.le_of_ble_eq_true rfl) ?_
  intro p e s m below meth c A ls hx hb hr hml hown hts hlk hK hE hA hP hD hS hl
  have hl : lv_has ls 2 [(0, .ref (ad 22)), (1, .int a1)] := hl
  unfold f_Parser_outermostExpression at hM
  refine lv_aload_n hx hb dX4_outermostExpression_0 rfl (lv_at hl 0 rfl) ?_
  refine lv_iload_n hx hb dX4_outermostExpression_1 rfl (lv_at hl 1 rfl) ?_
  refine lv_iconst (v := 0) hx hb dX4_outermostExpression_2 (by decide) ?_
  obtain ⟨r1, hcr1, hM⟩ := ob_use hM
  refine cl_V (As := [.int a1, .int 0]) (rest := []) (wP cI ad r1.1 ++ wK cI ad o_tokens ++ wT cI ad r1.2) [] ⟨hx, hb, hml, hown, hts⟩ (c_Parser_expression l D cI sd ad o_this o_tokens o_tree a1 0 r1 hcr1) (cwV2 hts q727 mvX4_expression rfl rfl ⟨(Nat.le_of_ble_eq_true rfl), (Nat.le_of_ble_eq_true rfl)⟩) hK hE hA hP hD hS 0 (T := TX4) (N := 12) (ci := 4) rfl rfl [0, 1, 2, 3, 4, 5, 6, 7, 8, 9, 10, 11, 12] rfl (by decide) rfl rfl rfl rfl rfl rfl hl.1 (Nat.le_of_ble_eq_true rfl) dX4_outermostExpression_3 ⟨Nat.zero_le _, Nat.zero_le _⟩ (fun H locs hP hD hS => ?_)
  refine lv_aload_n hx hb dX4_outermostExpression_6 rfl (lv_at hl 0 rfl) ?_
  refine lv_iconst (v := 0) hx hb dX4_outermostExpression_7 (by decide) ?_
  refine va_put (D := D) (ci := 4) (v := .int 0) (ty := .int) (C := RX4) (T := TX4) (N := 12) hx hb hts layX4 tyX4 tyX4_ok nmX4 hown hK hP hD hS 0 rfl rfl 7 (by decide) (hts _ (inA q404)) (fun _ h9 => h9) rfl (by decide +kernel) rfl rfl (Nat.le_of_ble_eq_true rfl) dX4_outermostExpression_8 (fun H locs hP hD hS => ?_)
  have hP : va_P D vwCl (wP cI ad (r1.1.1, r1.1.2.1, r1.1.2.2.1, r1.1.2.2.2.1, r1.1.2.2.2.2.1, 0, r1.1.2.2.2.2.2.2) ++ wK cI ad o_tokens ++ wT cI ad r1.2) H := hP
  have hD : va_D A (wP cI ad (r1.1.1, r1.1.2.1, r1.1.2.2.1, r1.1.2.2.2.1, r1.1.2.2.2.2.1, 0, r1.1.2.2.2.2.2.2) ++ wK cI ad o_tokens ++ wT cI ad r1.2) := hD
  cases hM
  exact rt_v hx hb hr hlk hP hD hS rfl dX4_outermostExpression_11

set_option maxHeartbeats 4000000 in
set_option maxRecDepth 100000 in
theorem c_Parser_assignment (l : Launch) (D : va_G) (cI : ClassId) (sd : Nat → Nat) (ad : Nat → Nat) (o_this : S_Parser) (o_tokens : S_Tokens) (o_tree : S_Tree) (a1 : Int32) (a2 : Int32) (a3 : Int32) (res : S_Parser × S_Tree) (hM : f_Parser_assignment o_this o_tokens o_tree a1 a2 a3 = some res) : Ctr l D cI sd yX4_assignment (wsM yX4_assignment cX4_assignment 6 (Option.none : Option Jvm.ClassFile.FieldType)) { frames := 263, cells := 0, slots := 0, locals := 6973 } [.ref (ad 22), .int a1, .int a2, .int a3] (wP cI ad o_this ++ wK cI ad o_tokens ++ wT cI ad o_tree) (wP cI ad res.1 ++ wK cI ad o_tokens ++ wT cI ad res.2) none := by
  refine Ctr.of (cc := cX4_assignment) (maxL := 6) (own := RX4) (by decide +kernel) rfl rfl (Nat.le_of_ble_eq_true rfl) ?_
  intro p e s m below meth c A ls hx hb hr hml hown hts hlk hK hE hA hP hD hS hl
  have hl : lv_has ls 6 [(0, .ref (ad 22)), (1, .int a1), (2, .int a2), (3, .int a3)] := hl
  unfold f_Parser_assignment at hM
  refine lv_aload_n hx hb dX4_assignment_0 rfl (lv_at hl 0 rfl) ?_
  refine va_get (D := D) (ci := 4) (v := .ref (ad 14)) (C := RX4) (T := TX4) (N := 12) hx hb hts layX4 hown hK hP 0 rfl rfl 1 (by decide) (hts _ (inA q398)) (fun _ h9 => h9) rfl dX4_assignment_1 ?_
  refine va_getN (D := D) (ci := 3) (v := .int o_tree.1) (C := RX3) (T := TX3) (N := 8) hx hb hts layX3 hown hK hP 5 rfl rfl 7 (by decide) (nfE10 hE) (fun _ h9 => h9) rfl dX4_assignment_4 ?_
  refine lv_istore (lv' := [(4, .int o_tree.1), (0, .ref (ad 22)), (1, .int a1), (2, .int a2), (3, .int a3)]) hx hb dX4_assignment_7 hl (by decide) rfl (fun ls hl => ?_)
  refine lv_aload_n hx hb dX4_assignment_9 rfl (lv_at hl 1 rfl) ?_
  refine va_get (D := D) (ci := 4) (v := .int o_this.2.1) (C := RX4) (T := TX4) (N := 12) hx hb hts layX4 hown hK hP 0 rfl rfl 3 (by decide) (hts _ (inA q400)) (fun _ h9 => h9) rfl dX4_assignment_10 ?_
  refine lv_bipush (v := 91) hx hb dX4_assignment_13 (by decide) ?_
  refine lv_icmp_ne (tgt := 51) hx hb dX4_assignment_15 (by decide) (fun c1 => ?_) (fun c1 => ?_)
  · replace hM := if_f c1 hM
    refine lv_aload_n hx hb dX4_assignment_51 rfl (lv_at hl 1 rfl) ?_
    refine va_get (D := D) (ci := 4) (v := .ref (ad 14)) (C := RX4) (T := TX4) (N := 12) hx hb hts layX4 hown hK hP 0 rfl rfl 1 (by decide) (hts _ (inA q398)) (fun _ h9 => h9) rfl dX4_assignment_52 ?_
    refine lv_iload_n hx hb dX4_assignment_55 rfl (lv_at hl 2 rfl) ?_
    refine lv_bipush (v := 6) hx hb dX4_assignment_56 (by decide) ?_
    refine lv_iload_n hx hb dX4_assignment_58 rfl (lv_at hl 3 rfl) ?_
    refine lv_iload_n hx hb dX4_assignment_59 rfl (lv_at hl 4 rfl) ?_
    obtain ⟨r2, hcr2, hM⟩ := ob_use hM
    refine cl_V (As := [.int a1, .int 6, .int a2, .int a3]) (rest := []) (wP cI ad o_this ++ wK cI ad o_tokens ++ wT cI ad r2.2) (.int r2.1 :: []) ⟨hx, hb, hml, hown, hts⟩ (c_Tree_add l D cI sd ad o_tree a1 6 a2 a3 r2 hcr2) (cwV2 hts q622 mvX3_add rfl rfl ⟨(Nat.le_of_ble_eq_true rfl), (Nat.le_of_ble_eq_true rfl)⟩) hK hE hA hP hD hS 5 (T := TX3) (N := 8) (ci := 3) rfl rfl [5, 6, 7, 8, 9, 10, 11, 12] rfl (by decide) rfl rfl rfl rfl rfl rfl hl.1 (Nat.le_of_ble_eq_true rfl) dX4_assignment_60 ⟨Nat.zero_le _, Nat.zero_le _⟩ (fun H locs hP hD hS => ?_)
    refine lv_pop hx hb dX4_assignment_63 rfl ?_
    refine lv_aload_n hx hb dX4_assignment_64 rfl (lv_at hl 1 rfl) ?_
    refine va_get (D := D) (ci := 4) (v := .ref (ad 14)) (C := RX4) (T := TX4) (N := 12) hx hb hts layX4 hown hK hP 0 rfl rfl 1 (by decide) (hts _ (inA q398)) (fun _ h9 => h9) rfl dX4_assignment_65 ?_
    refine lv_iload hx hb dX4_assignment_68 (lv_at hl 0 rfl) ?_
    refine lv_bipush (v := 12) hx hb dX4_assignment_70 (by decide) ?_
    refine lv_aload_n hx hb dX4_assignment_72 rfl (lv_at hl 1 rfl) ?_
    refine va_get (D := D) (ci := 4) (v := .int o_this.2.2.1) (C := RX4) (T := TX4) (N := 12) hx hb hts layX4 hown hK hP 0 rfl rfl 4 (by decide) (hts _ (inA q401)) (fun _ h9 => h9) rfl dX4_assignment_73 ?_
    refine lv_iconst (v := 0) hx hb dX4_assignment_76 (by decide) ?_
    obtain ⟨r3, hcr3, hM⟩ := ob_use hM
    refine cl_V (As := [.int o_tree.1, .int 12, .int o_this.2.2.1, .int 0]) (rest := []) (wP cI ad o_this ++ wK cI ad o_tokens ++ wT cI ad r3) [] ⟨hx, hb, hml, hown, hts⟩ (c_Tree_wrap l D cI sd ad r2.2 o_tree.1 12 o_this.2.2.1 0 r3 hcr3) (cwV2 hts q755 mvX3_wrap rfl rfl ⟨(Nat.le_of_ble_eq_true rfl), (Nat.le_of_ble_eq_true rfl)⟩) hK hE hA hP hD hS 5 (T := TX3) (N := 8) (ci := 3) rfl rfl [5, 6, 7, 8, 9, 10, 11, 12] rfl (by decide) rfl rfl rfl rfl rfl rfl hl.1 (Nat.le_of_ble_eq_true rfl) dX4_assignment_77 ⟨Nat.zero_le _, Nat.zero_le _⟩ (fun H locs hP hD hS => ?_)
    refine lv_aload_n hx hb dX4_assignment_80 rfl (lv_at hl 1 rfl) ?_
    refine lv_sipush (v := 14909) hx hb dX4_assignment_81 (by decide) ?_
    obtain ⟨r4, hcr4, hM⟩ := ob_use hM
    refine cl_V (As := [.int 14909]) (rest := []) (wP cI ad r4 ++ wK cI ad o_tokens ++ wT cI ad r3) [] ⟨hx, hb, hml, hown, hts⟩ (c_Parser_take l D cI sd ad o_this o_tokens 14909 r4 hcr4) (cwV2 hts q614 mvX4_take rfl rfl ⟨(Nat.le_of_ble_eq_true rfl), (Nat.le_of_ble_eq_true rfl)⟩) hK hE hA hP hD hS 0 (T := TX4) (N := 12) (ci := 4) rfl rfl [0, 1, 2, 3, 4] rfl (by decide) rfl rfl rfl rfl rfl rfl hl.1 (Nat.le_of_ble_eq_true rfl) dX4_assignment_84 ⟨Nat.zero_le _, Nat.zero_le _⟩ (fun H locs hP hD hS => ?_)
    refine lv_aload_n hx hb dX4_assignment_87 rfl (lv_at hl 1 rfl) ?_
    refine lv_iload hx hb dX4_assignment_88 (lv_at hl 0 rfl) ?_
    obtain ⟨r5, hcr5, hM⟩ := ob_use hM
    refine cl_V (As := [.int o_tree.1]) (rest := []) (wP cI ad r5.1 ++ wK cI ad o_tokens ++ wT cI ad r5.2) [] ⟨hx, hb, hml, hown, hts⟩ (c_Parser_outermostExpression l D cI sd ad r4 o_tokens r3 o_tree.1 r5 hcr5) (cwV2 hts q723 mvX4_outermostExpression rfl rfl ⟨(Nat.le_of_ble_eq_true rfl), (Nat.le_of_ble_eq_true rfl)⟩) hK hE hA hP hD hS 0 (T := TX4) (N := 12) (ci := 4) rfl rfl [0, 1, 2, 3, 4, 5, 6, 7, 8, 9, 10, 11, 12] rfl (by decide) rfl rfl rfl rfl rfl rfl hl.1 (Nat.le_of_ble_eq_true rfl) dX4_assignment_90 ⟨Nat.zero_le _, Nat.zero_le _⟩ (fun H locs hP hD hS => ?_)
    cases hM
    exact rt_v hx hb hr hlk hP hD hS rfl dX4_assignment_93
  · replace hM := if_t c1 hM
    refine lv_aload_n hx hb dX4_assignment_18 rfl (lv_at hl 1 rfl) ?_
    refine va_get (D := D) (ci := 4) (v := .ref (ad 14)) (C := RX4) (T := TX4) (N := 12) hx hb hts layX4 hown hK hP 0 rfl rfl 1 (by decide) (hts _ (inA q398)) (fun _ h9 => h9) rfl dX4_assignment_19 ?_
    refine lv_iload_n hx hb dX4_assignment_22 rfl (lv_at hl 2 rfl) ?_
    refine lv_bipush (v := 32) hx hb dX4_assignment_23 (by decide) ?_
    refine lv_iload_n hx hb dX4_assignment_25 rfl (lv_at hl 3 rfl) ?_
    refine lv_iload_n hx hb dX4_assignment_26 rfl (lv_at hl 4 rfl) ?_
    obtain ⟨r6, hcr6, hM⟩ := ob_use hM
    refine cl_V (As := [.int a1, .int 32, .int a2, .int a3]) (rest := []) (wP cI ad o_this ++ wK cI ad o_tokens ++ wT cI ad r6.2) (.int r6.1 :: []) ⟨hx, hb, hml, hown, hts⟩ (c_Tree_add l D cI sd ad o_tree a1 32 a2 a3 r6 hcr6) (cwV2 hts q622 mvX3_add rfl rfl ⟨(Nat.le_of_ble_eq_true rfl), (Nat.le_of_ble_eq_true rfl)⟩) hK hE hA hP hD hS 5 (T := TX3) (N := 8) (ci := 3) rfl rfl [5, 6, 7, 8, 9, 10, 11, 12] rfl (by decide) rfl rfl rfl rfl rfl rfl hl.1 (Nat.le_of_ble_eq_true rfl) dX4_assignment_27 ⟨Nat.zero_le _, Nat.zero_le _⟩ (fun H locs hP hD hS => ?_)
    refine lv_istore (lv' := [(5, .int r6.1), (4, .int o_tree.1), (0, .ref (ad 22)), (1, .int a1), (2, .int a2), (3, .int a3)]) hx hb dX4_assignment_30 hl (by decide) rfl (fun ls hl => ?_)
    refine lv_aload_n hx hb dX4_assignment_32 rfl (lv_at hl 2 rfl) ?_
    obtain ⟨r7, hcr7, hM⟩ := ob_use hM
    refine cl_V (As := []) (rest := []) (wP cI ad r7 ++ wK cI ad o_tokens ++ wT cI ad r6.2) [] ⟨hx, hb, hml, hown, hts⟩ (c_Parser_takeOpening l D cI sd ad o_this o_tokens r7 hcr7) (cwV2 hts q715 mvX4_takeOpening rfl rfl ⟨(Nat.le_of_ble_eq_true rfl), (Nat.le_of_ble_eq_true rfl)⟩) hK hE hA hP hD hS 0 (T := TX4) (N := 12) (ci := 4) rfl rfl [0, 1, 2, 3, 4] rfl (by decide) rfl rfl rfl rfl rfl rfl hl.1 (Nat.le_of_ble_eq_true rfl) dX4_assignment_33 ⟨Nat.zero_le _, Nat.zero_le _⟩ (fun H locs hP hD hS => ?_)
    refine lv_aload_n hx hb dX4_assignment_36 rfl (lv_at hl 2 rfl) ?_
    refine lv_iload hx hb dX4_assignment_37 (lv_at hl 0 rfl) ?_
    obtain ⟨r8, hcr8, hM⟩ := ob_use hM
    refine cl_V (As := [.int r6.1]) (rest := []) (wP cI ad r8.1 ++ wK cI ad o_tokens ++ wT cI ad r8.2) [] ⟨hx, hb, hml, hown, hts⟩ (c_Parser_outermostExpression l D cI sd ad r7 o_tokens r6.2 r6.1 r8 hcr8) (cwV2 hts q723 mvX4_outermostExpression rfl rfl ⟨(Nat.le_of_ble_eq_true rfl), (Nat.le_of_ble_eq_true rfl)⟩) hK hE hA hP hD hS 0 (T := TX4) (N := 12) (ci := 4) rfl rfl [0, 1, 2, 3, 4, 5, 6, 7, 8, 9, 10, 11, 12] rfl (by decide) rfl rfl rfl rfl rfl rfl hl.1 (Nat.le_of_ble_eq_true rfl) dX4_assignment_39 ⟨Nat.zero_le _, Nat.zero_le _⟩ (fun H locs hP hD hS => ?_)
    refine lv_aload_n hx hb dX4_assignment_42 rfl (lv_at hl 2 rfl) ?_
    refine lv_bipush (v := 93) hx hb dX4_assignment_43 (by decide) ?_
    obtain ⟨r9, hcr9, hM⟩ := ob_use hM
    refine cl_V (As := [.int 93]) (rest := []) (wP cI ad r9 ++ wK cI ad o_tokens ++ wT cI ad r8.2) [] ⟨hx, hb, hml, hown, hts⟩ (c_Parser_takeClosing l D cI sd ad r8.1 o_tokens 93 r9 hcr9) (cwV2 hts q735 mvX4_takeClosing rfl rfl ⟨(Nat.le_of_ble_eq_true rfl), (Nat.le_of_ble_eq_true rfl)⟩) hK hE hA hP hD hS 0 (T := TX4) (N := 12) (ci := 4) rfl rfl [0, 1, 2, 3, 4] rfl (by decide) rfl rfl rfl rfl rfl rfl hl.1 (Nat.le_of_ble_eq_true rfl) dX4_assignment_45 ⟨Nat.zero_le _, Nat.zero_le _⟩ (fun H locs hP hD hS => ?_)
    refine lv_goto (tgt := 64) hx hb dX4_assignment_48 (by decide) ?_
    refine lv_aload_n hx hb dX4_assignment_64 rfl (lv_at hl 2 rfl) ?_
    refine va_get (D := D) (ci := 4) (v := .ref (ad 14)) (C := RX4) (T := TX4) (N := 12) hx hb hts layX4 hown hK hP 0 rfl rfl 1 (by decide) (hts _ (inA q398)) (fun _ h9 => h9) rfl dX4_assignment_65 ?_
    refine lv_iload hx hb dX4_assignment_68 (lv_at hl 1 rfl) ?_
    refine lv_bipush (v := 12) hx hb dX4_assignment_70 (by decide) ?_
    refine lv_aload_n hx hb dX4_assignment_72 rfl (lv_at hl 2 rfl) ?_
    refine va_get (D := D) (ci := 4) (v := .int r9.2.2.1) (C := RX4) (T := TX4) (N := 12) hx hb hts layX4 hown hK hP 0 rfl rfl 4 (by decide) (hts _ (inA q401)) (fun _ h9 => h9) rfl dX4_assignment_73 ?_
    refine lv_iconst (v := 0) hx hb dX4_assignment_76 (by decide) ?_
    obtain ⟨r10, hcr10, hM⟩ := ob_use hM
    refine cl_V (As := [.int o_tree.1, .int 12, .int r9.2.2.1, .int 0]) (rest := []) (wP cI ad r9 ++ wK cI ad o_tokens ++ wT cI ad r10) [] ⟨hx, hb, hml, hown, hts⟩ (c_Tree_wrap l D cI sd ad r8.2 o_tree.1 12 r9.2.2.1 0 r10 hcr10) (cwV2 hts q755 mvX3_wrap rfl rfl ⟨(Nat.le_of_ble_eq_true rfl), (Nat.le_of_ble_eq_true rfl)⟩) hK hE hA hP hD hS 5 (T := TX3) (N := 8) (ci := 3) rfl rfl [5, 6, 7, 8, 9, 10, 11, 12] rfl (by decide) rfl rfl rfl rfl rfl rfl hl.1 (Nat.le_of_ble_eq_true rfl) dX4_assignment_77 ⟨Nat.zero_le _, Nat.zero_le _⟩ (fun H locs hP hD hS => ?_)
    refine lv_aload_n hx hb dX4_assignment_80 rfl (lv_at hl 2 rfl) ?_
    refine lv_sipush (v := 14909) hx hb dX4_assignment_81 (by decide) ?_
    obtain ⟨r11, hcr11, hM⟩ := ob_use hM
    refine cl_V (As := [.int 14909]) (rest := []) (wP cI ad r11 ++ wK cI ad o_tokens ++ wT cI ad r10) [] ⟨hx, hb, hml, hown, hts⟩ (c_Parser_take l D cI sd ad r9 o_tokens 14909 r11 hcr11) (cwV2 hts q614 mvX4_take rfl rfl ⟨(Nat.le_of_ble_eq_true rfl), (Nat.le_of_ble_eq_true rfl)⟩) hK hE hA hP hD hS 0 (T := TX4) (N := 12) (ci := 4) rfl rfl [0, 1, 2, 3, 4] rfl (by decide) rfl rfl rfl rfl rfl rfl hl.1 (Nat.le_of_ble_eq_true rfl) dX4_assignment_84 ⟨Nat.zero_le _, Nat.zero_le _⟩ (fun H locs hP hD hS => ?_)
    refine lv_aload_n hx hb dX4_assignment_87 rfl (lv_at hl 2 rfl) ?_
    refine lv_iload hx hb dX4_assignment_88 (lv_at hl 1 rfl) ?_
    obtain ⟨r12, hcr12, hM⟩ := ob_use hM
    refine cl_V (As := [.int o_tree.1]) (rest := []) (wP cI ad r12.1 ++ wK cI ad o_tokens ++ wT cI ad r12.2) [] ⟨hx, hb, hml, hown, hts⟩ (c_Parser_outermostExpression l D cI sd ad r11 o_tokens r10 o_tree.1 r12 hcr12) (cwV2 hts q723 mvX4_outermostExpression rfl rfl ⟨(Nat.le_of_ble_eq_true rfl), (Nat.le_of_ble_eq_true rfl)⟩) hK hE hA hP hD hS 0 (T := TX4) (N := 12) (ci := 4) rfl rfl [0, 1, 2, 3, 4, 5, 6, 7, 8, 9, 10, 11, 12] rfl (by decide) rfl rfl rfl rfl rfl rfl hl.1 (Nat.le_of_ble_eq_true rfl) dX4_assignment_90 ⟨Nat.zero_le _, Nat.zero_le _⟩ (fun H locs hP hD hS => ?_)
    cases hM
    exact rt_v hx hb hr hlk hP hD hS rfl dX4_assignment_93

set_option maxHeartbeats 4000000 in
set_option maxRecDepth 100000 in
theorem c_Parser_constant (l : Launch) (D : va_G) (cI : ClassId) (sd : Nat → Nat) (ad : Nat → Nat) (o_this : S_Parser) (o_tokens : S_Tokens) (o_tree : S_Tree) (a1 : Int32) (res : S_Parser × S_Tree) (hM : f_Parser_constant o_this o_tokens o_tree a1 = some res) : Ctr l D cI sd yX4_constant (wsM yX4_constant cX4_constant 3 (Option.none : Option Jvm.ClassFile.FieldType)) { frames := 2, cells := 0, slots := 0, locals := 46 } [.ref (ad 22), .int a1] (wP cI ad o_this ++ wK cI ad o_tokens ++ wT cI ad o_tree) (wP cI ad res.1 ++ wK cI ad o_tokens ++ wT cI ad res.2) none := by
  refine Ctr.of (cc := cX4_constant) (maxL := 3) (own := RX4) (by decide +kernel) rfl rfl (Nat.le_of_ble_eq_true rfl) ?_
  intro p e s m below meth c A ls hx hb hr hml hown hts hlk hK hE hA hP hD hS hl
  have hl : lv_has ls 3 [(0, .ref (ad 22)), (1, .int a1)] := hl
  unfold f_Parser_constant at hM
  refine lv_aload_n hx hb dX4_constant_0 rfl (lv_at hl 0 rfl) ?_
  refine va_get (D := D) (ci := 4) (v := .int o_this.2.1) (C := RX4) (T := TX4) (N := 12) hx hb hts layX4 hown hK hP 0 rfl rfl 3 (by decide) (hts _ (inA q400)) (fun _ h9 => h9) rfl dX4_constant_1 ?_
  refine lv_bipush (v := 45) hx hb dX4_constant_4 (by decide) ?_
  refine lv_icmp_ne (tgt := 45) hx hb dX4_constant_6 (by decide) (fun c1 => ?_) (fun c1 => ?_)
  · replace hM := if_f c1 hM
    refine lv_aload_n hx hb dX4_constant_45 rfl (lv_at hl 0 rfl) ?_
    refine lv_iload_n hx hb dX4_constant_46 rfl (lv_at hl 1 rfl) ?_
    obtain ⟨r2, hcr2, hM⟩ := ob_use hM
    refine cl_V (As := [.int a1]) (rest := []) (wP cI ad r2.1 ++ wK cI ad o_tokens ++ wT cI ad r2.2) [] ⟨hx, hb, hml, hown, hts⟩ (c_Parser_literal l D cI sd ad o_this o_tokens o_tree a1 r2 hcr2) (cwV2 hts q669 mvX4_literal rfl rfl ⟨(Nat.le_of_ble_eq_true rfl), (Nat.le_of_ble_eq_true rfl)⟩) hK hE hA hP hD hS 0 (T := TX4) (N := 12) (ci := 4) rfl rfl [0, 1, 2, 3, 4, 5, 6, 7, 8, 9, 10, 11, 12] rfl (by decide) rfl rfl rfl rfl rfl rfl hl.1 (Nat.le_of_ble_eq_true rfl) dX4_constant_47 ⟨Nat.zero_le _, Nat.zero_le _⟩ (fun H locs hP hD hS => ?_)
    cases hM
    exact rt_v hx hb hr hlk hP hD hS rfl dX4_constant_50
  · replace hM := if_t c1 hM
    refine lv_aload_n hx hb dX4_constant_9 rfl (lv_at hl 0 rfl) ?_
    refine va_get (D := D) (ci := 4) (v := .int o_this.2.2.1) (C := RX4) (T := TX4) (N := 12) hx hb hts layX4 hown hK hP 0 rfl rfl 4 (by decide) (hts _ (inA q401)) (fun _ h9 => h9) rfl dX4_constant_10 ?_
    refine lv_istore_n (lv' := [(2, .int o_this.2.2.1), (0, .ref (ad 22)), (1, .int a1)]) hx hb dX4_constant_13 rfl hl (by decide) rfl (fun ls hl => ?_)
    refine lv_aload_n hx hb dX4_constant_14 rfl (lv_at hl 1 rfl) ?_
    refine lv_bipush (v := 45) hx hb dX4_constant_15 (by decide) ?_
    obtain ⟨r3, hcr3, hM⟩ := ob_use hM
    refine cl_V (As := [.int 45]) (rest := []) (wP cI ad r3 ++ wK cI ad o_tokens ++ wT cI ad o_tree) [] ⟨hx, hb, hml, hown, hts⟩ (c_Parser_take l D cI sd ad o_this o_tokens 45 r3 hcr3) (cwV2 hts q614 mvX4_take rfl rfl ⟨(Nat.le_of_ble_eq_true rfl), (Nat.le_of_ble_eq_true rfl)⟩) hK hE hA hP hD hS 0 (T := TX4) (N := 12) (ci := 4) rfl rfl [0, 1, 2, 3, 4] rfl (by decide) rfl rfl rfl rfl rfl rfl hl.1 (Nat.le_of_ble_eq_true rfl) dX4_constant_17 ⟨Nat.zero_le _, Nat.zero_le _⟩ (fun H locs hP hD hS => ?_)
    refine lv_aload_n hx hb dX4_constant_20 rfl (lv_at hl 1 rfl) ?_
    refine va_get (D := D) (ci := 4) (v := .ref (ad 14)) (C := RX4) (T := TX4) (N := 12) hx hb hts layX4 hown hK hP 0 rfl rfl 1 (by decide) (hts _ (inA q398)) (fun _ h9 => h9) rfl dX4_constant_21 ?_
    refine lv_iload_n hx hb dX4_constant_24 rfl (lv_at hl 2 rfl) ?_
    refine lv_bipush (v := 30) hx hb dX4_constant_25 (by decide) ?_
    refine lv_iload_n hx hb dX4_constant_27 rfl (lv_at hl 0 rfl) ?_
    refine lv_aload_n hx hb dX4_constant_28 rfl (lv_at hl 1 rfl) ?_
    refine va_get (D := D) (ci := 4) (v := .int r3.2.2.2.1) (C := RX4) (T := TX4) (N := 12) hx hb hts layX4 hown hK hP 0 rfl rfl 5 (by decide) (hts _ (inA q402)) (fun _ h9 => h9) rfl dX4_constant_29 ?_
    refine lv_ineg hx hb dX4_constant_32 ?_
    obtain ⟨r4, hcr4, hM⟩ := ob_use hM
    refine cl_V (As := [.int a1, .int 30, .int o_this.2.2.1, .int (-r3.2.2.2.1)]) (rest := []) (wP cI ad r3 ++ wK cI ad o_tokens ++ wT cI ad r4.2) (.int r4.1 :: []) ⟨hx, hb, hml, hown, hts⟩ (c_Tree_add l D cI sd ad o_tree a1 30 o_this.2.2.1 (-r3.2.2.2.1) r4 hcr4) (cwV2 hts q622 mvX3_add rfl rfl ⟨(Nat.le_of_ble_eq_true rfl), (Nat.le_of_ble_eq_true rfl)⟩) hK hE hA hP hD hS 5 (T := TX3) (N := 8) (ci := 3) rfl rfl [5, 6, 7, 8, 9, 10, 11, 12] rfl (by decide) rfl rfl rfl rfl rfl rfl hl.1 (Nat.le_of_ble_eq_true rfl) dX4_constant_33 ⟨Nat.zero_le _, Nat.zero_le _⟩ (fun H locs hP hD hS => ?_)
    refine lv_pop hx hb dX4_constant_36 rfl ?_
    refine lv_aload_n hx hb dX4_constant_37 rfl (lv_at hl 1 rfl) ?_
    refine lv_iconst (v := 2) hx hb dX4_constant_38 (by decide) ?_
    obtain ⟨r5, hcr5, hM⟩ := ob_use hM
    refine cl_V (As := [.int 2]) (rest := []) (wP cI ad r5 ++ wK cI ad o_tokens ++ wT cI ad r4.2) [] ⟨hx, hb, hml, hown, hts⟩ (c_Parser_take l D cI sd ad r3 o_tokens 2 r5 hcr5) (cwV2 hts q614 mvX4_take rfl rfl ⟨(Nat.le_of_ble_eq_true rfl), (Nat.le_of_ble_eq_true rfl)⟩) hK hE hA hP hD hS 0 (T := TX4) (N := 12) (ci := 4) rfl rfl [0, 1, 2, 3, 4] rfl (by decide) rfl rfl rfl rfl rfl rfl hl.1 (Nat.le_of_ble_eq_true rfl) dX4_constant_39 ⟨Nat.zero_le _, Nat.zero_le _⟩ (fun H locs hP hD hS => ?_)
    refine lv_goto (tgt := 50) hx hb dX4_constant_42 (by decide) ?_
    cases hM
    exact rt_v hx hb hr hlk hP hD hS rfl dX4_constant_50

set_option maxHeartbeats 4000000 in
set_option maxRecDepth 100000 in
theorem c_Parser_ranges (l : Launch) (D : va_G) (cI : ClassId) (sd : Nat → Nat) (ad : Nat → Nat) (o_this : S_Parser) (o_tokens : S_Tokens) (o_tree : S_Tree) (a1 : Int32) (res : S_Parser × S_Tree) (hM : f_Parser_ranges o_this o_tokens o_tree a1 = some res) : Ctr l D cI sd yX4_ranges (wsM yX4_ranges cX4_ranges 5 (Option.none : Option Jvm.ClassFile.FieldType)) { frames := 3, cells := 0, slots := 0, locals := 68 } [.ref (ad 22), .int a1] (wP cI ad o_this ++ wK cI ad o_tokens ++ wT cI ad o_tree) (wP cI ad res.1 ++ wK cI ad o_tokens ++ wT cI ad res.2) none := by
  refine Ctr.of (cc := cX4_ranges) (maxL := 5) (own := RX4) (by decide +kernel) rfl rfl (Nat.le_of_ble_eq_true rfl) ?_
  intro p e s m below meth c A ls hx hb hr hml hown hts hlk hK hE hA hP hD hS hl
  have hl : lv_has ls 5 [(0, .ref (ad 22)), (1, .int a1)] := hl
  unfold f_Parser_ranges at hM
  refine lv_iconst (v := 1) hx hb dX4_ranges_0 (by decide) ?_
  refine lv_istore_n (lv' := [(2, .int 1), (0, .ref (ad 22)), (1, .int a1)]) hx hb dX4_ranges_1 rfl hl (by decide) rfl (fun ls hl => ?_)
  refine lv_iconst (v := 0) hx hb dX4_ranges_2 (by decide) ?_
  refine lv_istore_n (lv' := [(3, .int 0), (2, .int 1), (0, .ref (ad 22)), (1, .int a1)]) hx hb dX4_ranges_3 rfl hl (by decide) rfl (fun ls hl => ?_)
  have lp_L4 : ∀ (w1_L4 : Int32) (o_tokens_L4 : S_Tokens) (n : Nat) (v3_L4 : Int32) (v2_L4 : Int32) (o_this_L4 : S_Parser) (o_tree_L4 : S_Tree) (out_L4 : S_Parser × S_Tree) (H : Heap) (locs : List Loc) (ls : Array Slot), f_Parser_ranges_L4 w1_L4 o_tokens_L4 n v3_L4 v2_L4 o_this_L4 o_tree_L4 = some out_L4 → va_P D vwCl (wP cI ad o_this_L4 ++ wK cI ad o_tokens_L4 ++ wT cI ad o_tree_L4) H → va_D A (wP cI ad o_this_L4 ++ wK cI ad o_tokens_L4 ++ wT cI ad o_tree_L4) → va_S A s.heap H locs → lv_has ls 5 [(3, .int v3_L4), (2, .int v2_L4), (0, .ref (ad 22)), (1, .int w1_L4)] → (∀ (H : Heap) (locs : List Loc) (ls : Array Slot), va_P D vwCl (wP cI ad out_L4.1 ++ wK cI ad o_tokens_L4 ++ wT cI ad out_L4.2) H → va_D A (wP cI ad out_L4.1 ++ wK cI ad o_tokens_L4 ++ wT cI ad out_L4.2) → va_S A s.heap H locs → lv_has ls 5 [(0, .ref (ad 22)), (1, .int w1_L4)] → W p l e { frames := 3, cells := 0, slots := 0, locals := 68 } s m [.ref (ad 22), .int a1].toArray below meth c H locs 0 0 (MQ below (CQ D A (wP cI ad res.1 ++ wK cI ad o_tokens ++ wT cI ad res.2) none) [.ref (ad 22), .int a1].toArray s 0 0 A) (F0 m 72 ls [])) → W p l e { frames := 3, cells := 0, slots := 0, locals := 68 } s m [.ref (ad 22), .int a1].toArray below meth c H locs 0 0 (MQ below (CQ D A (wP cI ad res.1 ++ wK cI ad o_tokens ++ wT cI ad res.2) none) [.ref (ad 22), .int a1].toArray s 0 0 A) (F0 m 4 ls []) := by
    intro w1_L4 o_tokens_L4 n
    induction n with
    | zero => intro v3_L4 v2_L4 o_this_L4 o_tree_L4 out_L4 H locs ls hM; exact absurd (show none = some _ from hM) (by simp)
    | succ n ih_L4 =>
      intro v3_L4 v2_L4 o_this_L4 o_tree_L4 out_L4 H locs ls hM hP hD hS hl kx_L4
      rw [f_Parser_ranges_L4] at hM
      refine lv_iload_n hx hb dX4_ranges_4 rfl (lv_at hl 1 rfl) ?_
      refine lv_if_eq (tgt := 72) hx hb dX4_ranges_5 (by decide) (fun c1141 => ?_) (fun c1141 => ?_)
      · replace hM := if_t c1141 hM
        cases hM
        exact kx_L4 _ _ _ hP hD hS (lv_sub hl [2, 3] rfl)
      · replace hM := if_f c1141 hM
        refine lv_iload_n hx hb dX4_ranges_8 rfl (lv_at hl 0 rfl) ?_
        refine lv_sipush (v := 8192) hx hb dX4_ranges_9 (by decide) ?_
        refine lv_icmp_ge (tgt := 72) hx hb dX4_ranges_12 (by decide) (fun c1142 => ?_) (fun c1142 => ?_)
        · replace hM := if_t c1142 hM
          cases hM
          exact kx_L4 _ _ _ hP hD hS (lv_sub hl [2, 3] rfl)
        · replace hM := if_f c1142 hM
          refine lv_aload_n hx hb dX4_ranges_15 rfl (lv_at hl 2 rfl) ?_
          refine va_get (D := D) (ci := 4) (v := .ref (ad 14)) (C := RX4) (T := TX4) (N := 12) hx hb hts layX4 hown hK hP 0 rfl rfl 1 (by decide) (hts _ (inA q398)) (fun _ h9 => h9) rfl dX4_ranges_16 ?_
          refine lv_iload_n hx hb dX4_ranges_19 rfl (lv_at hl 3 rfl) ?_
          refine lv_bipush (v := 18) hx hb dX4_ranges_20 (by decide) ?_
          refine lv_aload_n hx hb dX4_ranges_22 rfl (lv_at hl 2 rfl) ?_
          refine va_get (D := D) (ci := 4) (v := .int o_this_L4.2.2.1) (C := RX4) (T := TX4) (N := 12) hx hb hts layX4 hown hK hP 0 rfl rfl 4 (by decide) (hts _ (inA q401)) (fun _ h9 => h9) rfl dX4_ranges_23 ?_
          refine lv_iconst (v := 0) hx hb dX4_ranges_26 (by decide) ?_
          obtain ⟨r1143, hcr1143, hM⟩ := ob_use hM
          refine cl_V (As := [.int w1_L4, .int 18, .int o_this_L4.2.2.1, .int 0]) (rest := []) (wP cI ad o_this_L4 ++ wK cI ad o_tokens_L4 ++ wT cI ad r1143.2) (.int r1143.1 :: []) ⟨hx, hb, hml, hown, hts⟩ (c_Tree_add l D cI sd ad o_tree_L4 w1_L4 18 o_this_L4.2.2.1 0 r1143 hcr1143) (cwV2 hts q622 mvX3_add rfl rfl ⟨(Nat.le_of_ble_eq_true rfl), (Nat.le_of_ble_eq_true rfl)⟩) hK hE hA hP hD hS 5 (T := TX3) (N := 8) (ci := 3) rfl rfl [5, 6, 7, 8, 9, 10, 11, 12] rfl (by decide) rfl rfl rfl rfl rfl rfl hl.1 (Nat.le_of_ble_eq_true rfl) dX4_ranges_27 ⟨Nat.zero_le _, Nat.zero_le _⟩ (fun H locs hP hD hS => ?_)
          refine lv_istore (lv' := [(4, .int r1143.1), (3, .int v3_L4), (2, .int v2_L4), (0, .ref (ad 22)), (1, .int w1_L4)]) hx hb dX4_ranges_30 hl (by decide) rfl (fun ls hl => ?_)
          refine lv_aload_n hx hb dX4_ranges_32 rfl (lv_at hl 3 rfl) ?_
          refine lv_iload hx hb dX4_ranges_33 (lv_at hl 0 rfl) ?_
          obtain ⟨r1144, hcr1144, hM⟩ := ob_use hM
          refine cl_V (As := [.int r1143.1]) (rest := []) (wP cI ad r1144.1 ++ wK cI ad o_tokens_L4 ++ wT cI ad r1144.2) [] ⟨hx, hb, hml, hown, hts⟩ (c_Parser_constant l D cI sd ad o_this_L4 o_tokens_L4 r1143.2 r1143.1 r1144 hcr1144) (cwV2 hts q665 mvX4_constant rfl rfl ⟨(Nat.le_of_ble_eq_true rfl), (Nat.le_of_ble_eq_true rfl)⟩) hK hE hA hP hD hS 0 (T := TX4) (N := 12) (ci := 4) rfl rfl [0, 1, 2, 3, 4, 5, 6, 7, 8, 9, 10, 11, 12] rfl (by decide) rfl rfl rfl rfl rfl rfl hl.1 (Nat.le_of_ble_eq_true rfl) dX4_ranges_35 ⟨Nat.zero_le _, Nat.zero_le _⟩ (fun H locs hP hD hS => ?_)
          refine lv_aload_n hx hb dX4_ranges_38 rfl (lv_at hl 3 rfl) ?_
          refine va_get (D := D) (ci := 4) (v := .int r1144.1.2.1) (C := RX4) (T := TX4) (N := 12) hx hb hts layX4 hown hK hP 0 rfl rfl 3 (by decide) (hts _ (inA q400)) (fun _ h9 => h9) rfl dX4_ranges_39 ?_
          refine lv_sipush (v := 11822) hx hb dX4_ranges_42 (by decide) ?_
          refine lv_icmp_ne (tgt := 61) hx hb dX4_ranges_45 (by decide) (fun c1145 => ?_) (fun c1145 => ?_)
          · replace hM := if_f c1145 hM
            refine lv_aload_n hx hb dX4_ranges_61 rfl (lv_at hl 3 rfl) ?_
            obtain ⟨r1146, hcr1146, hM⟩ := ob_use hM
            refine cl_V (As := []) (rest := []) (wP cI ad r1146.2 ++ wK cI ad o_tokens_L4 ++ wT cI ad r1144.2) (.int r1146.1 :: []) ⟨hx, hb, hml, hown, hts⟩ (c_Parser_takeComma l D cI sd ad r1144.1 o_tokens_L4 r1146 hcr1146) (cwV2 hts q743 mvX4_takeComma rfl rfl ⟨(Nat.le_of_ble_eq_true rfl), (Nat.le_of_ble_eq_true rfl)⟩) hK hE hA hP hD hS 0 (T := TX4) (N := 12) (ci := 4) rfl rfl [0, 1, 2, 3, 4] rfl (by decide) rfl rfl rfl rfl rfl rfl hl.1 (Nat.le_of_ble_eq_true rfl) dX4_ranges_62 ⟨Nat.zero_le _, Nat.zero_le _⟩ (fun H locs hP hD hS => ?_)
            refine lv_istore_n (lv' := [(2, .int r1146.1), (4, .int r1143.1), (3, .int v3_L4), (0, .ref (ad 22)), (1, .int w1_L4)]) hx hb dX4_ranges_65 rfl hl (by decide) rfl (fun ls hl => ?_)
            obtain ⟨x1147, ex1147⟩ : ∃ y : Int32, y = v3_L4 + 1 := ⟨_, rfl⟩
            replace hM := nm_use ex1147 hM
            refine lv_iinc (v := x1147) (lv' := [(3, .int x1147), (2, .int r1146.1), (4, .int r1143.1), (0, .ref (ad 22)), (1, .int w1_L4)]) hx hb dX4_ranges_66 hl (k := 2) rfl (by rw [ex1147]; rfl) (by decide) rfl (fun ls hl => ?_)
            refine lv_goto (tgt := 4) hx hb dX4_ranges_69 (by decide) ?_
            exact ih_L4 x1147 r1146.1 r1146.2 r1144.2 out_L4 _ _ _ hM hP hD hS (lv_sub hl [0, 1, 3, 4] rfl) kx_L4
          · replace hM := if_t c1145 hM
            refine lv_aload_n hx hb dX4_ranges_48 rfl (lv_at hl 3 rfl) ?_
            refine lv_sipush (v := 11822) hx hb dX4_ranges_49 (by decide) ?_
            obtain ⟨r1148, hcr1148, hM⟩ := ob_use hM
            refine cl_V (As := [.int 11822]) (rest := []) (wP cI ad r1148 ++ wK cI ad o_tokens_L4 ++ wT cI ad r1144.2) [] ⟨hx, hb, hml, hown, hts⟩ (c_Parser_take l D cI sd ad r1144.1 o_tokens_L4 11822 r1148 hcr1148) (cwV2 hts q614 mvX4_take rfl rfl ⟨(Nat.le_of_ble_eq_true rfl), (Nat.le_of_ble_eq_true rfl)⟩) hK hE hA hP hD hS 0 (T := TX4) (N := 12) (ci := 4) rfl rfl [0, 1, 2, 3, 4] rfl (by decide) rfl rfl rfl rfl rfl rfl hl.1 (Nat.le_of_ble_eq_true rfl) dX4_ranges_52 ⟨Nat.zero_le _, Nat.zero_le _⟩ (fun H locs hP hD hS => ?_)
            refine lv_aload_n hx hb dX4_ranges_55 rfl (lv_at hl 3 rfl) ?_
            refine lv_iload hx hb dX4_ranges_56 (lv_at hl 0 rfl) ?_
            obtain ⟨r1149, hcr1149, hM⟩ := ob_use hM
            refine cl_V (As := [.int r1143.1]) (rest := []) (wP cI ad r1149.1 ++ wK cI ad o_tokens_L4 ++ wT cI ad r1149.2) [] ⟨hx, hb, hml, hown, hts⟩ (c_Parser_constant l D cI sd ad r1148 o_tokens_L4 r1144.2 r1143.1 r1149 hcr1149) (cwV2 hts q665 mvX4_constant rfl rfl ⟨(Nat.le_of_ble_eq_true rfl), (Nat.le_of_ble_eq_true rfl)⟩) hK hE hA hP hD hS 0 (T := TX4) (N := 12) (ci := 4) rfl rfl [0, 1, 2, 3, 4, 5, 6, 7, 8, 9, 10, 11, 12] rfl (by decide) rfl rfl rfl rfl rfl rfl hl.1 (Nat.le_of_ble_eq_true rfl) dX4_ranges_58 ⟨Nat.zero_le _, Nat.zero_le _⟩ (fun H locs hP hD hS => ?_)
            refine lv_aload_n hx hb dX4_ranges_61 rfl (lv_at hl 3 rfl) ?_
            obtain ⟨r1150, hcr1150, hM⟩ := ob_use hM
            refine cl_V (As := []) (rest := []) (wP cI ad r1150.2 ++ wK cI ad o_tokens_L4 ++ wT cI ad r1149.2) (.int r1150.1 :: []) ⟨hx, hb, hml, hown, hts⟩ (c_Parser_takeComma l D cI sd ad r1149.1 o_tokens_L4 r1150 hcr1150) (cwV2 hts q743 mvX4_takeComma rfl rfl ⟨(Nat.le_of_ble_eq_true rfl), (Nat.le_of_ble_eq_true rfl)⟩) hK hE hA hP hD hS 0 (T := TX4) (N := 12) (ci := 4) rfl rfl [0, 1, 2, 3, 4] rfl (by decide) rfl rfl rfl rfl rfl rfl hl.1 (Nat.le_of_ble_eq_true rfl) dX4_ranges_62 ⟨Nat.zero_le _, Nat.zero_le _⟩ (fun H locs hP hD hS => ?_)
            refine lv_istore_n (lv' := [(2, .int r1150.1), (4, .int r1143.1), (3, .int v3_L4), (0, .ref (ad 22)), (1, .int w1_L4)]) hx hb dX4_ranges_65 rfl hl (by decide) rfl (fun ls hl => ?_)
            obtain ⟨x1151, ex1151⟩ : ∃ y : Int32, y = v3_L4 + 1 := ⟨_, rfl⟩
            replace hM := nm_use ex1151 hM
            refine lv_iinc (v := x1151) (lv' := [(3, .int x1151), (2, .int r1150.1), (4, .int r1143.1), (0, .ref (ad 22)), (1, .int w1_L4)]) hx hb dX4_ranges_66 hl (k := 2) rfl (by rw [ex1151]; rfl) (by decide) rfl (fun ls hl => ?_)
            refine lv_goto (tgt := 4) hx hb dX4_ranges_69 (by decide) ?_
            exact ih_L4 x1151 r1150.1 r1150.2 r1149.2 out_L4 _ _ _ hM hP hD hS (lv_sub hl [0, 1, 3, 4] rfl) kx_L4
  obtain ⟨r1, hcr1, hM⟩ := ob_use hM
  refine lp_L4 a1 o_tokens FU 0 1 o_this o_tree r1 _ _ _ hcr1 hP hD hS (lv_sub hl [0, 1, 2, 3] rfl) (fun H locs ls hP hD hS hl => ?_)
  cases hM
  exact rt_v hx hb hr hlk hP hD hS rfl dX4_ranges_72

set_option maxHeartbeats 4000000 in
set_option maxRecDepth 100000 in
theorem c_Parser_startsConstant (l : Launch) (D : va_G) (cI : ClassId) (sd : Nat → Nat) (ad : Nat → Nat) (o_this : S_Parser) (res : Int32) (hM : f_Parser_startsConstant o_this = some res) : Ctr l D cI sd yX4_startsConstant (wsM yX4_startsConstant cX4_startsConstant 1 (Option.some Jvm.ClassFile.FieldType.boolean)) { frames := 0, cells := 0, slots := 0, locals := 0 } [.ref (ad 22)] (wP cI ad o_this) (wP cI ad o_this) (some (.int res)) := by
  refine Ctr.of (cc := cX4_startsConstant) (maxL := 1) (own := RX4) (by decide +kernel) rfl rfl (Nat.le_of_ble_eq_true rfl) ?_
  intro p e s m below meth c A ls hx hb hr hml hown hts hlk hK hE hA hP hD hS hl
  have hl : lv_has ls 1 [(0, .ref (ad 22))] := hl
  unfold f_Parser_startsConstant at hM
  refine lv_aload_n hx hb dX4_startsConstant_0 rfl (lv_at hl 0 rfl) ?_
  refine va_get (D := D) (ci := 4) (v := .int o_this.2.1) (C := RX4) (T := TX4) (N := 12) hx hb hts layX4 hown hK hP 0 rfl rfl 3 (by decide) (hts _ (inA q400)) (fun _ h9 => h9) rfl dX4_startsConstant_1 ?_
  refine lv_bipush (v := 45) hx hb dX4_startsConstant_4 (by decide) ?_
  refine lv_icmp_eq (tgt := 37) hx hb dX4_startsConstant_6 (by decide) (fun c1 => ?_) (fun c1 => ?_)
  · replace hM := if_t c1 hM
    refine lv_iconst (v := 1) hx hb dX4_startsConstant_37 (by decide) ?_
    refine lv_goto (tgt := 42) hx hb dX4_startsConstant_38 (by decide) ?_
    cases hM
    exact rt_z hx hb hr hlk (by decide) hP hD hS rfl dX4_startsConstant_42
  · replace hM := if_f c1 hM
    refine lv_aload_n hx hb dX4_startsConstant_9 rfl (lv_at hl 0 rfl) ?_
    refine va_get (D := D) (ci := 4) (v := .int o_this.2.1) (C := RX4) (T := TX4) (N := 12) hx hb hts layX4 hown hK hP 0 rfl rfl 3 (by decide) (hts _ (inA q400)) (fun _ h9 => h9) rfl dX4_startsConstant_10 ?_
    refine lv_iconst (v := 2) hx hb dX4_startsConstant_13 (by decide) ?_
    refine lv_icmp_eq (tgt := 37) hx hb dX4_startsConstant_14 (by decide) (fun c2 => ?_) (fun c2 => ?_)
    · replace hM := if_t c2 hM
      refine lv_iconst (v := 1) hx hb dX4_startsConstant_37 (by decide) ?_
      refine lv_goto (tgt := 42) hx hb dX4_startsConstant_38 (by decide) ?_
      cases hM
      exact rt_z hx hb hr hlk (by decide) hP hD hS rfl dX4_startsConstant_42
    · replace hM := if_f c2 hM
      refine lv_aload_n hx hb dX4_startsConstant_17 rfl (lv_at hl 0 rfl) ?_
      refine va_get (D := D) (ci := 4) (v := .int o_this.2.1) (C := RX4) (T := TX4) (N := 12) hx hb hts layX4 hown hK hP 0 rfl rfl 3 (by decide) (hts _ (inA q400)) (fun _ h9 => h9) rfl dX4_startsConstant_18 ?_
      refine lv_sipush (v := 291) hx hb dX4_startsConstant_21 (by decide) ?_
      refine lv_icmp_eq (tgt := 37) hx hb dX4_startsConstant_24 (by decide) (fun c3 => ?_) (fun c3 => ?_)
      · replace hM := if_t c3 hM
        refine lv_iconst (v := 1) hx hb dX4_startsConstant_37 (by decide) ?_
        refine lv_goto (tgt := 42) hx hb dX4_startsConstant_38 (by decide) ?_
        cases hM
        exact rt_z hx hb hr hlk (by decide) hP hD hS rfl dX4_startsConstant_42
      · replace hM := if_f c3 hM
        refine lv_aload_n hx hb dX4_startsConstant_27 rfl (lv_at hl 0 rfl) ?_
        refine va_get (D := D) (ci := 4) (v := .int o_this.2.1) (C := RX4) (T := TX4) (N := 12) hx hb hts layX4 hown hK hP 0 rfl rfl 3 (by decide) (hts _ (inA q400)) (fun _ h9 => h9) rfl dX4_startsConstant_28 ?_
        refine lv_sipush (v := 292) hx hb dX4_startsConstant_31 (by decide) ?_
        refine lv_icmp_ne (tgt := 41) hx hb dX4_startsConstant_34 (by decide) (fun c4 => ?_) (fun c4 => ?_)
        · replace hM := if_f c4 hM
          refine lv_iconst (v := 0) hx hb dX4_startsConstant_41 (by decide) ?_
          cases hM
          exact rt_z hx hb hr hlk (by decide) hP hD hS rfl dX4_startsConstant_42
        · replace hM := if_t c4 hM
          refine lv_iconst (v := 1) hx hb dX4_startsConstant_37 (by decide) ?_
          refine lv_goto (tgt := 42) hx hb dX4_startsConstant_38 (by decide) ?_
          cases hM
          exact rt_z hx hb hr hlk (by decide) hP hD hS rfl dX4_startsConstant_42

set_option maxHeartbeats 4000000 in
set_option maxRecDepth 100000 in
theorem c_Parser_caseStatement (l : Launch) (D : va_G) (cI : ClassId) (sd : Nat → Nat) (ad : Nat → Nat) (fr lo : Nat) (f_body : S_Parser → S_Tokens → S_Tree → Int32 → Option (S_Parser × S_Tree)) (H_body : ∀ (o_this : S_Parser) (o_tokens : S_Tokens) (o_tree : S_Tree) (a1 : Int32) (res : S_Parser × S_Tree), f_body o_this o_tokens o_tree a1 = some res → Ctr l D cI sd yX4_body (wsM yX4_body cX4_body 5 (Option.none : Option Jvm.ClassFile.FieldType)) { frames := fr, cells := 0, slots := 0, locals := lo } [.ref (ad 22), .int a1] (wP cI ad o_this ++ wK cI ad o_tokens ++ wT cI ad o_tree) (wP cI ad res.1 ++ wK cI ad o_tokens ++ wT cI ad res.2) none) (o_this : S_Parser) (o_tokens : S_Tokens) (o_tree : S_Tree) (a1 : Int32) (res : S_Parser × S_Tree) (hM : f_Parser_caseStatement f_body o_this o_tokens o_tree a1 = some res) : Ctr l D cI sd yX4_caseStatement (wsM yX4_caseStatement cX4_caseStatement 5 (Option.none : Option Jvm.ClassFile.FieldType)) { frames := max (fr + 1) 263, cells := 0, slots := 0, locals := max (lo + 24) 6973 } [.ref (ad 22), .int a1] (wP cI ad o_this ++ wK cI ad o_tokens ++ wT cI ad o_tree) (wP cI ad res.1 ++ wK cI ad o_tokens ++ wT cI ad res.2) none := by
  refine Ctr.of (cc := cX4_caseStatement) (maxL := 5) (own := RX4) (by decide +kernel) rfl rfl (Nat.le_of_ble_eq_true rfl) ?_
  intro p e s m below meth c A ls hx hb hr hml hown hts hlk hK hE hA hP hD hS hl
  have hl : lv_has ls 5 [(0, .ref (ad 22)), (1, .int a1)] := hl
  unfold f_Parser_caseStatement at hM
  refine lv_aload_n hx hb dX4_caseStatement_0 rfl (lv_at hl 0 rfl) ?_
  refine va_get (D := D) (ci := 4) (v := .ref (ad 14)) (C := RX4) (T := TX4) (N := 12) hx hb hts layX4 hown hK hP 0 rfl rfl 1 (by decide) (hts _ (inA q398)) (fun _ h9 => h9) rfl dX4_caseStatement_1 ?_
  refine lv_iload_n hx hb dX4_caseStatement_4 rfl (lv_at hl 1 rfl) ?_
  refine lv_bipush (v := 16) hx hb dX4_caseStatement_5 (by decide) ?_
  refine lv_aload_n hx hb dX4_caseStatement_7 rfl (lv_at hl 0 rfl) ?_
  refine va_get (D := D) (ci := 4) (v := .int o_this.2.2.1) (C := RX4) (T := TX4) (N := 12) hx hb hts layX4 hown hK hP 0 rfl rfl 4 (by decide) (hts _ (inA q401)) (fun _ h9 => h9) rfl dX4_caseStatement_8 ?_
  refine lv_iconst (v := 0) hx hb dX4_caseStatement_11 (by decide) ?_
  obtain ⟨r1, hcr1, hM⟩ := ob_use hM
  refine cl_V (As := [.int a1, .int 16, .int o_this.2.2.1, .int 0]) (rest := []) (wP cI ad o_this ++ wK cI ad o_tokens ++ wT cI ad r1.2) (.int r1.1 :: []) ⟨hx, hb, hml, hown, hts⟩ (c_Tree_add l D cI sd ad o_tree a1 16 o_this.2.2.1 0 r1 hcr1) (cwV2 hts q622 mvX3_add rfl rfl ⟨(mxN (Nat.le_of_ble_eq_true rfl)), (mxN (Nat.le_of_ble_eq_true rfl))⟩) hK hE hA hP hD hS 5 (T := TX3) (N := 8) (ci := 3) rfl rfl [5, 6, 7, 8, 9, 10, 11, 12] rfl (by decide) rfl rfl rfl rfl rfl rfl hl.1 (Nat.le_of_ble_eq_true rfl) dX4_caseStatement_12 ⟨Nat.zero_le _, Nat.zero_le _⟩ (fun H locs hP hD hS => ?_)
  refine lv_istore_n (lv' := [(2, .int r1.1), (0, .ref (ad 22)), (1, .int a1)]) hx hb dX4_caseStatement_15 rfl hl (by decide) rfl (fun ls hl => ?_)
  refine lv_aload_n hx hb dX4_caseStatement_16 rfl (lv_at hl 1 rfl) ?_
  obtain ⟨r2, hcr2, hM⟩ := ob_use hM
  refine cl_V (As := []) (rest := []) (wP cI ad r2 ++ wK cI ad o_tokens ++ wT cI ad r1.2) [] ⟨hx, hb, hml, hown, hts⟩ (c_Parser_takeOpening l D cI sd ad o_this o_tokens r2 hcr2) (cwV2 hts q715 mvX4_takeOpening rfl rfl ⟨(mxN (Nat.le_of_ble_eq_true rfl)), (mxN (Nat.le_of_ble_eq_true rfl))⟩) hK hE hA hP hD hS 0 (T := TX4) (N := 12) (ci := 4) rfl rfl [0, 1, 2, 3, 4] rfl (by decide) rfl rfl rfl rfl rfl rfl hl.1 (Nat.le_of_ble_eq_true rfl) dX4_caseStatement_17 ⟨Nat.zero_le _, Nat.zero_le _⟩ (fun H locs hP hD hS => ?_)
  refine lv_aload_n hx hb dX4_caseStatement_20 rfl (lv_at hl 1 rfl) ?_
  refine lv_iload_n hx hb dX4_caseStatement_21 rfl (lv_at hl 0 rfl) ?_
  obtain ⟨r3, hcr3, hM⟩ := ob_use hM
  refine cl_V (As := [.int r1.1]) (rest := []) (wP cI ad r3.1 ++ wK cI ad o_tokens ++ wT cI ad r3.2) [] ⟨hx, hb, hml, hown, hts⟩ (c_Parser_outermostExpression l D cI sd ad r2 o_tokens r1.2 r1.1 r3 hcr3) (cwV2 hts q723 mvX4_outermostExpression rfl rfl ⟨(mxN (Nat.le_of_ble_eq_true rfl)), (mxN (Nat.le_of_ble_eq_true rfl))⟩) hK hE hA hP hD hS 0 (T := TX4) (N := 12) (ci := 4) rfl rfl [0, 1, 2, 3, 4, 5, 6, 7, 8, 9, 10, 11, 12] rfl (by decide) rfl rfl rfl rfl rfl rfl hl.1 (Nat.le_of_ble_eq_true rfl) dX4_caseStatement_22 ⟨Nat.zero_le _, Nat.zero_le _⟩ (fun H locs hP hD hS => ?_)
  refine lv_aload_n hx hb dX4_caseStatement_25 rfl (lv_at hl 1 rfl) ?_
  refine lv_sipush (v := 271) hx hb dX4_caseStatement_26 (by decide) ?_
  obtain ⟨r4, hcr4, hM⟩ := ob_use hM
  refine cl_V (As := [.int 271]) (rest := []) (wP cI ad r4 ++ wK cI ad o_tokens ++ wT cI ad r3.2) [] ⟨hx, hb, hml, hown, hts⟩ (c_Parser_take l D cI sd ad r3.1 o_tokens 271 r4 hcr4) (cwV2 hts q614 mvX4_take rfl rfl ⟨(mxN (Nat.le_of_ble_eq_true rfl)), (mxN (Nat.le_of_ble_eq_true rfl))⟩) hK hE hA hP hD hS 0 (T := TX4) (N := 12) (ci := 4) rfl rfl [0, 1, 2, 3, 4] rfl (by decide) rfl rfl rfl rfl rfl rfl hl.1 (Nat.le_of_ble_eq_true rfl) dX4_caseStatement_29 ⟨Nat.zero_le _, Nat.zero_le _⟩ (fun H locs hP hD hS => ?_)
  refine lv_iconst (v := 0) hx hb dX4_caseStatement_32 (by decide) ?_
  refine lv_istore_n (lv' := [(3, .int 0), (2, .int r1.1), (0, .ref (ad 22)), (1, .int a1)]) hx hb dX4_caseStatement_33 rfl hl (by decide) rfl (fun ls hl => ?_)
  have lp_L34 : ∀ (w2_L34 : Int32) (o_tokens_L34 : S_Tokens) (n : Nat) (v3_L34 : Int32) (o_this_L34 : S_Parser) (o_tree_L34 : S_Tree) (out_L34 : S_Parser × S_Tree) (H : Heap) (locs : List Loc) (ls : Array Slot), f_Parser_caseStatement_L34 f_body w2_L34 o_tokens_L34 n v3_L34 o_this_L34 o_tree_L34 = some out_L34 → va_P D vwCl (wP cI ad o_this_L34 ++ wK cI ad o_tokens_L34 ++ wT cI ad o_tree_L34) H → va_D A (wP cI ad o_this_L34 ++ wK cI ad o_tokens_L34 ++ wT cI ad o_tree_L34) → va_S A s.heap H locs → lv_has ls 5 [(3, .int v3_L34), (2, .int w2_L34), (0, .ref (ad 22))] → (∀ (H : Heap) (locs : List Loc) (ls : Array Slot), va_P D vwCl (wP cI ad out_L34.1 ++ wK cI ad o_tokens_L34 ++ wT cI ad out_L34.2) H → va_D A (wP cI ad out_L34.1 ++ wK cI ad o_tokens_L34 ++ wT cI ad out_L34.2) → va_S A s.heap H locs → lv_has ls 5 [(2, .int w2_L34), (0, .ref (ad 22))] → W p l e { frames := max (fr + 1) 263, cells := 0, slots := 0, locals := max (lo + 24) 6973 } s m [.ref (ad 22), .int a1].toArray below meth c H locs 0 0 (MQ below (CQ D A (wP cI ad res.1 ++ wK cI ad o_tokens ++ wT cI ad res.2) none) [.ref (ad 22), .int a1].toArray s 0 0 A) (F0 m 89 ls [])) → W p l e { frames := max (fr + 1) 263, cells := 0, slots := 0, locals := max (lo + 24) 6973 } s m [.ref (ad 22), .int a1].toArray below meth c H locs 0 0 (MQ below (CQ D A (wP cI ad res.1 ++ wK cI ad o_tokens ++ wT cI ad res.2) none) [.ref (ad 22), .int a1].toArray s 0 0 A) (F0 m 34 ls []) := by
    intro w2_L34 o_tokens_L34 n
    induction n with
    | zero => intro v3_L34 o_this_L34 o_tree_L34 out_L34 H locs ls hM; exact absurd (show none = some _ from hM) (by simp)
    | succ n ih_L34 =>
      intro v3_L34 o_this_L34 o_tree_L34 out_L34 H locs ls hM hP hD hS hl kx_L34
      rw [f_Parser_caseStatement_L34] at hM
      refine lv_iload_n hx hb dX4_caseStatement_34 rfl (lv_at hl 0 rfl) ?_
      refine lv_sipush (v := 8192) hx hb dX4_caseStatement_35 (by decide) ?_
      refine lv_icmp_ge (tgt := 89) hx hb dX4_caseStatement_38 (by decide) (fun c1441 => ?_) (fun c1441 => ?_)
      · replace hM := if_t c1441 hM
        cases hM
        exact kx_L34 _ _ _ hP hD hS (lv_sub hl [1, 2] rfl)
      · replace hM := if_f c1441 hM
        refine lv_aload_n hx hb dX4_caseStatement_41 rfl (lv_at hl 2 rfl) ?_
        obtain ⟨r1442, hcr1442, hM⟩ := ob_use hM
        refine cl_V (As := []) (rest := []) (wP cI ad o_this_L34 ++ wK cI ad o_tokens_L34 ++ wT cI ad o_tree_L34) (.int r1442 :: []) ⟨hx, hb, hml, hown, hts⟩ (c_Parser_startsConstant l D cI sd ad o_this_L34 r1442 hcr1442) (cwV2 hts q778 mvX4_startsConstant rfl rfl ⟨(mxN (Nat.le_of_ble_eq_true rfl)), (mxN (Nat.le_of_ble_eq_true rfl))⟩) hK hE hA hP hD hS 0 (T := TX4) (N := 12) (ci := 4) rfl rfl [0] rfl (by decide) rfl rfl rfl rfl rfl rfl hl.1 (Nat.le_of_ble_eq_true rfl) dX4_caseStatement_42 ⟨Nat.zero_le _, Nat.zero_le _⟩ (fun H locs hP hD hS => ?_)
        refine lv_if_eq (tgt := 89) hx hb dX4_caseStatement_45 (by decide) (fun c1443 => ?_) (fun c1443 => ?_)
        · replace hM := if_t c1443 hM
          cases hM
          exact kx_L34 _ _ _ hP hD hS (lv_sub hl [1, 2] rfl)
        · replace hM := if_f c1443 hM
          refine lv_aload_n hx hb dX4_caseStatement_48 rfl (lv_at hl 2 rfl) ?_
          refine va_get (D := D) (ci := 4) (v := .ref (ad 14)) (C := RX4) (T := TX4) (N := 12) hx hb hts layX4 hown hK hP 0 rfl rfl 1 (by decide) (hts _ (inA q398)) (fun _ h9 => h9) rfl dX4_caseStatement_49 ?_
          refine lv_iload_n hx hb dX4_caseStatement_52 rfl (lv_at hl 1 rfl) ?_
          refine lv_bipush (v := 17) hx hb dX4_caseStatement_53 (by decide) ?_
          refine lv_aload_n hx hb dX4_caseStatement_55 rfl (lv_at hl 2 rfl) ?_
          refine va_get (D := D) (ci := 4) (v := .int o_this_L34.2.2.1) (C := RX4) (T := TX4) (N := 12) hx hb hts layX4 hown hK hP 0 rfl rfl 4 (by decide) (hts _ (inA q401)) (fun _ h9 => h9) rfl dX4_caseStatement_56 ?_
          refine lv_iconst (v := 0) hx hb dX4_caseStatement_59 (by decide) ?_
          obtain ⟨r1444, hcr1444, hM⟩ := ob_use hM
          refine cl_V (As := [.int w2_L34, .int 17, .int o_this_L34.2.2.1, .int 0]) (rest := []) (wP cI ad o_this_L34 ++ wK cI ad o_tokens_L34 ++ wT cI ad r1444.2) (.int r1444.1 :: []) ⟨hx, hb, hml, hown, hts⟩ (c_Tree_add l D cI sd ad o_tree_L34 w2_L34 17 o_this_L34.2.2.1 0 r1444 hcr1444) (cwV2 hts q622 mvX3_add rfl rfl ⟨(mxN (Nat.le_of_ble_eq_true rfl)), (mxN (Nat.le_of_ble_eq_true rfl))⟩) hK hE hA hP hD hS 5 (T := TX3) (N := 8) (ci := 3) rfl rfl [5, 6, 7, 8, 9, 10, 11, 12] rfl (by decide) rfl rfl rfl rfl rfl rfl hl.1 (Nat.le_of_ble_eq_true rfl) dX4_caseStatement_60 ⟨Nat.zero_le _, Nat.zero_le _⟩ (fun H locs hP hD hS => ?_)
          refine lv_istore (lv' := [(4, .int r1444.1), (3, .int v3_L34), (2, .int w2_L34), (0, .ref (ad 22))]) hx hb dX4_caseStatement_63 hl (by decide) rfl (fun ls hl => ?_)
          refine lv_aload_n hx hb dX4_caseStatement_65 rfl (lv_at hl 3 rfl) ?_
          refine lv_iload hx hb dX4_caseStatement_66 (lv_at hl 0 rfl) ?_
          obtain ⟨r1445, hcr1445, hM⟩ := ob_use hM
          refine cl_V (As := [.int r1444.1]) (rest := []) (wP cI ad r1445.1 ++ wK cI ad o_tokens_L34 ++ wT cI ad r1445.2) [] ⟨hx, hb, hml, hown, hts⟩ (c_Parser_ranges l D cI sd ad o_this_L34 o_tokens_L34 r1444.2 r1444.1 r1445 hcr1445) (cwV2 hts q782 mvX4_ranges rfl rfl ⟨(mxN (Nat.le_of_ble_eq_true rfl)), (mxN (Nat.le_of_ble_eq_true rfl))⟩) hK hE hA hP hD hS 0 (T := TX4) (N := 12) (ci := 4) rfl rfl [0, 1, 2, 3, 4, 5, 6, 7, 8, 9, 10, 11, 12] rfl (by decide) rfl rfl rfl rfl rfl rfl hl.1 (Nat.le_of_ble_eq_true rfl) dX4_caseStatement_68 ⟨Nat.zero_le _, Nat.zero_le _⟩ (fun H locs hP hD hS => ?_)
          refine lv_aload_n hx hb dX4_caseStatement_71 rfl (lv_at hl 3 rfl) ?_
          refine lv_bipush (v := 58) hx hb dX4_caseStatement_72 (by decide) ?_
          obtain ⟨r1446, hcr1446, hM⟩ := ob_use hM
          refine cl_V (As := [.int 58]) (rest := []) (wP cI ad r1446 ++ wK cI ad o_tokens_L34 ++ wT cI ad r1445.2) [] ⟨hx, hb, hml, hown, hts⟩ (c_Parser_take l D cI sd ad r1445.1 o_tokens_L34 58 r1446 hcr1446) (cwV2 hts q614 mvX4_take rfl rfl ⟨(mxN (Nat.le_of_ble_eq_true rfl)), (mxN (Nat.le_of_ble_eq_true rfl))⟩) hK hE hA hP hD hS 0 (T := TX4) (N := 12) (ci := 4) rfl rfl [0, 1, 2, 3, 4] rfl (by decide) rfl rfl rfl rfl rfl rfl hl.1 (Nat.le_of_ble_eq_true rfl) dX4_caseStatement_74 ⟨Nat.zero_le _, Nat.zero_le _⟩ (fun H locs hP hD hS => ?_)
          refine lv_aload_n hx hb dX4_caseStatement_77 rfl (lv_at hl 3 rfl) ?_
          refine lv_iload hx hb dX4_caseStatement_78 (lv_at hl 0 rfl) ?_
          obtain ⟨r1447, hcr1447, hM⟩ := ob_use hM
          refine cl_V (As := [.int r1444.1]) (rest := []) (wP cI ad r1447.1 ++ wK cI ad o_tokens_L34 ++ wT cI ad r1447.2) [] ⟨hx, hb, hml, hown, hts⟩ (H_body r1446 o_tokens_L34 r1445.2 r1444.1 r1447 hcr1447) (cwV2 hts q703 mvX4_body rfl rfl ⟨mxF0 (by decide), mxL0 (by decide)⟩) hK hE hA hP hD hS 0 (T := TX4) (N := 12) (ci := 4) rfl rfl [0, 1, 2, 3, 4, 5, 6, 7, 8, 9, 10, 11, 12] rfl (by decide) rfl rfl rfl rfl rfl rfl hl.1 (Nat.le_of_ble_eq_true rfl) dX4_caseStatement_80 ⟨Nat.zero_le _, Nat.zero_le _⟩ (fun H locs hP hD hS => ?_)
          obtain ⟨x1448, ex1448⟩ : ∃ y : Int32, y = v3_L34 + 1 := ⟨_, rfl⟩
          replace hM := nm_use ex1448 hM
          refine lv_iinc (v := x1448) (lv' := [(3, .int x1448), (4, .int r1444.1), (2, .int w2_L34), (0, .ref (ad 22))]) hx hb dX4_caseStatement_83 hl (k := 1) rfl (by rw [ex1448]; rfl) (by decide) rfl (fun ls hl => ?_)
          refine lv_goto (tgt := 34) hx hb dX4_caseStatement_86 (by decide) ?_
          exact ih_L34 x1448 r1447.1 r1447.2 out_L34 _ _ _ hM hP hD hS (lv_sub hl [0, 2, 3] rfl) kx_L34
  obtain ⟨r5, hcr5, hM⟩ := ob_use hM
  refine lp_L34 r1.1 o_tokens FU 0 r4 r3.2 r5 _ _ _ hcr5 hP hD hS (lv_sub hl [0, 1, 2] rfl) (fun H locs ls hP hD hS hl => ?_)
  refine lv_aload_n hx hb dX4_caseStatement_89 rfl (lv_at hl 1 rfl) ?_
  refine va_get (D := D) (ci := 4) (v := .int r5.1.2.1) (C := RX4) (T := TX4) (N := 12) hx hb hts layX4 hown hK hP 0 rfl rfl 3 (by decide) (hts _ (inA q400)) (fun _ h9 => h9) rfl dX4_caseStatement_90 ?_
  refine lv_sipush (v := 275) hx hb dX4_caseStatement_93 (by decide) ?_
  refine lv_icmp_ne (tgt := 111) hx hb dX4_caseStatement_96 (by decide) (fun c6 => ?_) (fun c6 => ?_)
  · replace hM := if_f c6 hM
    refine lv_aload_n hx hb dX4_caseStatement_111 rfl (lv_at hl 1 rfl) ?_
    refine lv_sipush (v := 278) hx hb dX4_caseStatement_112 (by decide) ?_
    obtain ⟨r7, hcr7, hM⟩ := ob_use hM
    refine cl_V (As := [.int 278]) (rest := []) (wP cI ad r7 ++ wK cI ad o_tokens ++ wT cI ad r5.2) [] ⟨hx, hb, hml, hown, hts⟩ (c_Parser_takeClosing l D cI sd ad r5.1 o_tokens 278 r7 hcr7) (cwV2 hts q735 mvX4_takeClosing rfl rfl ⟨(mxN (Nat.le_of_ble_eq_true rfl)), (mxN (Nat.le_of_ble_eq_true rfl))⟩) hK hE hA hP hD hS 0 (T := TX4) (N := 12) (ci := 4) rfl rfl [0, 1, 2, 3, 4] rfl (by decide) rfl rfl rfl rfl rfl rfl hl.1 (Nat.le_of_ble_eq_true rfl) dX4_caseStatement_115 ⟨Nat.zero_le _, Nat.zero_le _⟩ (fun H locs hP hD hS => ?_)
    cases hM
    exact rt_v hx hb hr hlk hP hD hS rfl dX4_caseStatement_118
  · replace hM := if_t c6 hM
    refine lv_aload_n hx hb dX4_caseStatement_99 rfl (lv_at hl 1 rfl) ?_
    refine lv_sipush (v := 275) hx hb dX4_caseStatement_100 (by decide) ?_
    obtain ⟨r8, hcr8, hM⟩ := ob_use hM
    refine cl_V (As := [.int 275]) (rest := []) (wP cI ad r8 ++ wK cI ad o_tokens ++ wT cI ad r5.2) [] ⟨hx, hb, hml, hown, hts⟩ (c_Parser_take l D cI sd ad r5.1 o_tokens 275 r8 hcr8) (cwV2 hts q614 mvX4_take rfl rfl ⟨(mxN (Nat.le_of_ble_eq_true rfl)), (mxN (Nat.le_of_ble_eq_true rfl))⟩) hK hE hA hP hD hS 0 (T := TX4) (N := 12) (ci := 4) rfl rfl [0, 1, 2, 3, 4] rfl (by decide) rfl rfl rfl rfl rfl rfl hl.1 (Nat.le_of_ble_eq_true rfl) dX4_caseStatement_103 ⟨Nat.zero_le _, Nat.zero_le _⟩ (fun H locs hP hD hS => ?_)
    refine lv_aload_n hx hb dX4_caseStatement_106 rfl (lv_at hl 1 rfl) ?_
    refine lv_iload_n hx hb dX4_caseStatement_107 rfl (lv_at hl 0 rfl) ?_
    obtain ⟨r9, hcr9, hM⟩ := ob_use hM
    refine cl_V (As := [.int r1.1]) (rest := []) (wP cI ad r9.1 ++ wK cI ad o_tokens ++ wT cI ad r9.2) [] ⟨hx, hb, hml, hown, hts⟩ (H_body r8 o_tokens r5.2 r1.1 r9 hcr9) (cwV2 hts q703 mvX4_body rfl rfl ⟨mxF0 (by decide), mxL0 (by decide)⟩) hK hE hA hP hD hS 0 (T := TX4) (N := 12) (ci := 4) rfl rfl [0, 1, 2, 3, 4, 5, 6, 7, 8, 9, 10, 11, 12] rfl (by decide) rfl rfl rfl rfl rfl rfl hl.1 (Nat.le_of_ble_eq_true rfl) dX4_caseStatement_108 ⟨Nat.zero_le _, Nat.zero_le _⟩ (fun H locs hP hD hS => ?_)
    refine lv_aload_n hx hb dX4_caseStatement_111 rfl (lv_at hl 1 rfl) ?_
    refine lv_sipush (v := 278) hx hb dX4_caseStatement_112 (by decide) ?_
    obtain ⟨r10, hcr10, hM⟩ := ob_use hM
    refine cl_V (As := [.int 278]) (rest := []) (wP cI ad r10 ++ wK cI ad o_tokens ++ wT cI ad r9.2) [] ⟨hx, hb, hml, hown, hts⟩ (c_Parser_takeClosing l D cI sd ad r9.1 o_tokens 278 r10 hcr10) (cwV2 hts q735 mvX4_takeClosing rfl rfl ⟨(mxN (Nat.le_of_ble_eq_true rfl)), (mxN (Nat.le_of_ble_eq_true rfl))⟩) hK hE hA hP hD hS 0 (T := TX4) (N := 12) (ci := 4) rfl rfl [0, 1, 2, 3, 4] rfl (by decide) rfl rfl rfl rfl rfl rfl hl.1 (Nat.le_of_ble_eq_true rfl) dX4_caseStatement_115 ⟨Nat.zero_le _, Nat.zero_le _⟩ (fun H locs hP hD hS => ?_)
    cases hM
    exact rt_v hx hb hr hlk hP hD hS rfl dX4_caseStatement_118

set_option maxHeartbeats 4000000 in
set_option maxRecDepth 100000 in
theorem c_Parser_forStatement (l : Launch) (D : va_G) (cI : ClassId) (sd : Nat → Nat) (ad : Nat → Nat) (fr lo : Nat) (f_body : S_Parser → S_Tokens → S_Tree → Int32 → Option (S_Parser × S_Tree)) (H_body : ∀ (o_this : S_Parser) (o_tokens : S_Tokens) (o_tree : S_Tree) (a1 : Int32) (res : S_Parser × S_Tree), f_body o_this o_tokens o_tree a1 = some res → Ctr l D cI sd yX4_body (wsM yX4_body cX4_body 5 (Option.none : Option Jvm.ClassFile.FieldType)) { frames := fr, cells := 0, slots := 0, locals := lo } [.ref (ad 22), .int a1] (wP cI ad o_this ++ wK cI ad o_tokens ++ wT cI ad o_tree) (wP cI ad res.1 ++ wK cI ad o_tokens ++ wT cI ad res.2) none) (o_this : S_Parser) (o_tokens : S_Tokens) (o_tree : S_Tree) (a1 : Int32) (res : S_Parser × S_Tree) (hM : f_Parser_forStatement f_body o_this o_tokens o_tree a1 = some res) : Ctr l D cI sd yX4_forStatement (wsM yX4_forStatement cX4_forStatement 4 (Option.none : Option Jvm.ClassFile.FieldType)) { frames := max (fr + 1) 3, cells := 0, slots := 0, locals := max (lo + 24) 68 } [.ref (ad 22), .int a1] (wP cI ad o_this ++ wK cI ad o_tokens ++ wT cI ad o_tree) (wP cI ad res.1 ++ wK cI ad o_tokens ++ wT cI ad res.2) none := by
  refine Ctr.of (cc := cX4_forStatement) (maxL := 4) (own := RX4) (by decide +kernel) rfl rfl (Nat.le_of_ble_eq_true rfl) ?_
  intro p e s m below meth c A ls hx hb hr hml hown hts hlk hK hE hA hP hD hS hl
  have hl : lv_has ls 4 [(0, .ref (ad 22)), (1, .int a1)] := hl
  unfold f_Parser_forStatement at hM
  refine lv_aload_n hx hb dX4_forStatement_0 rfl (lv_at hl 0 rfl) ?_
  refine va_get (D := D) (ci := 4) (v := .int o_this.2.2.1) (C := RX4) (T := TX4) (N := 12) hx hb hts layX4 hown hK hP 0 rfl rfl 4 (by decide) (hts _ (inA q401)) (fun _ h9 => h9) rfl dX4_forStatement_1 ?_
  refine lv_istore_n (lv' := [(2, .int o_this.2.2.1), (0, .ref (ad 22)), (1, .int a1)]) hx hb dX4_forStatement_4 rfl hl (by decide) rfl (fun ls hl => ?_)
  refine lv_aload_n hx hb dX4_forStatement_5 rfl (lv_at hl 1 rfl) ?_
  obtain ⟨r1, hcr1, hM⟩ := ob_use hM
  refine cl_V (As := []) (rest := []) (wP cI ad r1 ++ wK cI ad o_tokens ++ wT cI ad o_tree) [] ⟨hx, hb, hml, hown, hts⟩ (c_Parser_takeOpening l D cI sd ad o_this o_tokens r1 hcr1) (cwV2 hts q715 mvX4_takeOpening rfl rfl ⟨(mxN (Nat.le_of_ble_eq_true rfl)), (mxN (Nat.le_of_ble_eq_true rfl))⟩) hK hE hA hP hD hS 0 (T := TX4) (N := 12) (ci := 4) rfl rfl [0, 1, 2, 3, 4] rfl (by decide) rfl rfl rfl rfl rfl rfl hl.1 (Nat.le_of_ble_eq_true rfl) dX4_forStatement_6 ⟨Nat.zero_le _, Nat.zero_le _⟩ (fun H locs hP hD hS => ?_)
  refine lv_aload_n hx hb dX4_forStatement_9 rfl (lv_at hl 1 rfl) ?_
  refine va_get (D := D) (ci := 4) (v := .ref (ad 14)) (C := RX4) (T := TX4) (N := 12) hx hb hts layX4 hown hK hP 0 rfl rfl 1 (by decide) (hts _ (inA q398)) (fun _ h9 => h9) rfl dX4_forStatement_10 ?_
  refine lv_iload_n hx hb dX4_forStatement_13 rfl (lv_at hl 2 rfl) ?_
  refine lv_bipush (v := 19) hx hb dX4_forStatement_14 (by decide) ?_
  refine lv_iload_n hx hb dX4_forStatement_16 rfl (lv_at hl 0 rfl) ?_
  refine lv_aload_n hx hb dX4_forStatement_17 rfl (lv_at hl 1 rfl) ?_
  obtain ⟨r2, hcr2, hM⟩ := ob_use hM
  refine cl_V (As := []) (rest := [.int o_this.2.2.1, .int 19, .int a1, .ref (ad 14)]) (wP cI ad r2.2 ++ wK cI ad o_tokens ++ wT cI ad o_tree) (.int r2.1 :: [.int o_this.2.2.1, .int 19, .int a1, .ref (ad 14)]) ⟨hx, hb, hml, hown, hts⟩ (c_Parser_takeName l D cI sd ad r1 o_tokens r2 hcr2) (cwV2 hts q637 mvX4_takeName rfl rfl ⟨(mxN (Nat.le_of_ble_eq_true rfl)), (mxN (Nat.le_of_ble_eq_true rfl))⟩) hK hE hA hP hD hS 0 (T := TX4) (N := 12) (ci := 4) rfl rfl [0, 1, 2, 3, 4] rfl (by decide) rfl rfl rfl rfl rfl rfl hl.1 (Nat.le_of_ble_eq_true rfl) dX4_forStatement_18 ⟨Nat.zero_le _, Nat.zero_le _⟩ (fun H locs hP hD hS => ?_)
  obtain ⟨r3, hcr3, hM⟩ := ob_use hM
  refine cl_V (As := [.int a1, .int 19, .int o_this.2.2.1, .int r2.1]) (rest := []) (wP cI ad r2.2 ++ wK cI ad o_tokens ++ wT cI ad r3.2) (.int r3.1 :: []) ⟨hx, hb, hml, hown, hts⟩ (c_Tree_add l D cI sd ad o_tree a1 19 o_this.2.2.1 r2.1 r3 hcr3) (cwV2 hts q622 mvX3_add rfl rfl ⟨(mxN (Nat.le_of_ble_eq_true rfl)), (mxN (Nat.le_of_ble_eq_true rfl))⟩) hK hE hA hP hD hS 5 (T := TX3) (N := 8) (ci := 3) rfl rfl [5, 6, 7, 8, 9, 10, 11, 12] rfl (by decide) rfl rfl rfl rfl rfl rfl hl.1 (Nat.le_of_ble_eq_true rfl) dX4_forStatement_21 ⟨Nat.zero_le _, Nat.zero_le _⟩ (fun H locs hP hD hS => ?_)
  refine lv_istore_n (lv' := [(3, .int r3.1), (2, .int o_this.2.2.1), (0, .ref (ad 22)), (1, .int a1)]) hx hb dX4_forStatement_24 rfl hl (by decide) rfl (fun ls hl => ?_)
  refine lv_aload_n hx hb dX4_forStatement_25 rfl (lv_at hl 2 rfl) ?_
  refine lv_sipush (v := 14909) hx hb dX4_forStatement_26 (by decide) ?_
  obtain ⟨r4, hcr4, hM⟩ := ob_use hM
  refine cl_V (As := [.int 14909]) (rest := []) (wP cI ad r4 ++ wK cI ad o_tokens ++ wT cI ad r3.2) [] ⟨hx, hb, hml, hown, hts⟩ (c_Parser_take l D cI sd ad r2.2 o_tokens 14909 r4 hcr4) (cwV2 hts q614 mvX4_take rfl rfl ⟨(mxN (Nat.le_of_ble_eq_true rfl)), (mxN (Nat.le_of_ble_eq_true rfl))⟩) hK hE hA hP hD hS 0 (T := TX4) (N := 12) (ci := 4) rfl rfl [0, 1, 2, 3, 4] rfl (by decide) rfl rfl rfl rfl rfl rfl hl.1 (Nat.le_of_ble_eq_true rfl) dX4_forStatement_29 ⟨Nat.zero_le _, Nat.zero_le _⟩ (fun H locs hP hD hS => ?_)
  refine lv_aload_n hx hb dX4_forStatement_32 rfl (lv_at hl 2 rfl) ?_
  refine lv_iload_n hx hb dX4_forStatement_33 rfl (lv_at hl 0 rfl) ?_
  obtain ⟨r5, hcr5, hM⟩ := ob_use hM
  refine cl_V (As := [.int r3.1]) (rest := []) (wP cI ad r5.1 ++ wK cI ad o_tokens ++ wT cI ad r5.2) [] ⟨hx, hb, hml, hown, hts⟩ (c_Parser_constant l D cI sd ad r4 o_tokens r3.2 r3.1 r5 hcr5) (cwV2 hts q665 mvX4_constant rfl rfl ⟨(mxN (Nat.le_of_ble_eq_true rfl)), (mxN (Nat.le_of_ble_eq_true rfl))⟩) hK hE hA hP hD hS 0 (T := TX4) (N := 12) (ci := 4) rfl rfl [0, 1, 2, 3, 4, 5, 6, 7, 8, 9, 10, 11, 12] rfl (by decide) rfl rfl rfl rfl rfl rfl hl.1 (Nat.le_of_ble_eq_true rfl) dX4_forStatement_34 ⟨Nat.zero_le _, Nat.zero_le _⟩ (fun H locs hP hD hS => ?_)
  refine lv_aload_n hx hb dX4_forStatement_37 rfl (lv_at hl 2 rfl) ?_
  refine lv_sipush (v := 280) hx hb dX4_forStatement_38 (by decide) ?_
  obtain ⟨r6, hcr6, hM⟩ := ob_use hM
  refine cl_V (As := [.int 280]) (rest := []) (wP cI ad r6 ++ wK cI ad o_tokens ++ wT cI ad r5.2) [] ⟨hx, hb, hml, hown, hts⟩ (c_Parser_take l D cI sd ad r5.1 o_tokens 280 r6 hcr6) (cwV2 hts q614 mvX4_take rfl rfl ⟨(mxN (Nat.le_of_ble_eq_true rfl)), (mxN (Nat.le_of_ble_eq_true rfl))⟩) hK hE hA hP hD hS 0 (T := TX4) (N := 12) (ci := 4) rfl rfl [0, 1, 2, 3, 4] rfl (by decide) rfl rfl rfl rfl rfl rfl hl.1 (Nat.le_of_ble_eq_true rfl) dX4_forStatement_41 ⟨Nat.zero_le _, Nat.zero_le _⟩ (fun H locs hP hD hS => ?_)
  refine lv_aload_n hx hb dX4_forStatement_44 rfl (lv_at hl 2 rfl) ?_
  refine lv_iload_n hx hb dX4_forStatement_45 rfl (lv_at hl 0 rfl) ?_
  obtain ⟨r7, hcr7, hM⟩ := ob_use hM
  refine cl_V (As := [.int r3.1]) (rest := []) (wP cI ad r7.1 ++ wK cI ad o_tokens ++ wT cI ad r7.2) [] ⟨hx, hb, hml, hown, hts⟩ (c_Parser_constant l D cI sd ad r6 o_tokens r5.2 r3.1 r7 hcr7) (cwV2 hts q665 mvX4_constant rfl rfl ⟨(mxN (Nat.le_of_ble_eq_true rfl)), (mxN (Nat.le_of_ble_eq_true rfl))⟩) hK hE hA hP hD hS 0 (T := TX4) (N := 12) (ci := 4) rfl rfl [0, 1, 2, 3, 4, 5, 6, 7, 8, 9, 10, 11, 12] rfl (by decide) rfl rfl rfl rfl rfl rfl hl.1 (Nat.le_of_ble_eq_true rfl) dX4_forStatement_46 ⟨Nat.zero_le _, Nat.zero_le _⟩ (fun H locs hP hD hS => ?_)
  refine lv_aload_n hx hb dX4_forStatement_49 rfl (lv_at hl 2 rfl) ?_
  refine va_get (D := D) (ci := 4) (v := .int r7.1.2.1) (C := RX4) (T := TX4) (N := 12) hx hb hts layX4 hown hK hP 0 rfl rfl 3 (by decide) (hts _ (inA q400)) (fun _ h9 => h9) rfl dX4_forStatement_50 ?_
  refine lv_sipush (v := 281) hx hb dX4_forStatement_53 (by decide) ?_
  refine lv_icmp_ne (tgt := 71) hx hb dX4_forStatement_56 (by decide) (fun c8 => ?_) (fun c8 => ?_)
  · replace hM := if_f c8 hM
    refine lv_aload_n hx hb dX4_forStatement_71 rfl (lv_at hl 2 rfl) ?_
    refine lv_sipush (v := 282) hx hb dX4_forStatement_72 (by decide) ?_
    obtain ⟨r9, hcr9, hM⟩ := ob_use hM
    refine cl_V (As := [.int 282]) (rest := []) (wP cI ad r9 ++ wK cI ad o_tokens ++ wT cI ad r7.2) [] ⟨hx, hb, hml, hown, hts⟩ (c_Parser_take l D cI sd ad r7.1 o_tokens 282 r9 hcr9) (cwV2 hts q614 mvX4_take rfl rfl ⟨(mxN (Nat.le_of_ble_eq_true rfl)), (mxN (Nat.le_of_ble_eq_true rfl))⟩) hK hE hA hP hD hS 0 (T := TX4) (N := 12) (ci := 4) rfl rfl [0, 1, 2, 3, 4] rfl (by decide) rfl rfl rfl rfl rfl rfl hl.1 (Nat.le_of_ble_eq_true rfl) dX4_forStatement_75 ⟨Nat.zero_le _, Nat.zero_le _⟩ (fun H locs hP hD hS => ?_)
    refine lv_aload_n hx hb dX4_forStatement_78 rfl (lv_at hl 2 rfl) ?_
    refine lv_iload_n hx hb dX4_forStatement_79 rfl (lv_at hl 0 rfl) ?_
    obtain ⟨r10, hcr10, hM⟩ := ob_use hM
    refine cl_V (As := [.int r3.1]) (rest := []) (wP cI ad r10.1 ++ wK cI ad o_tokens ++ wT cI ad r10.2) [] ⟨hx, hb, hml, hown, hts⟩ (H_body r9 o_tokens r7.2 r3.1 r10 hcr10) (cwV2 hts q703 mvX4_body rfl rfl ⟨mxF0 (by decide), mxL0 (by decide)⟩) hK hE hA hP hD hS 0 (T := TX4) (N := 12) (ci := 4) rfl rfl [0, 1, 2, 3, 4, 5, 6, 7, 8, 9, 10, 11, 12] rfl (by decide) rfl rfl rfl rfl rfl rfl hl.1 (Nat.le_of_ble_eq_true rfl) dX4_forStatement_80 ⟨Nat.zero_le _, Nat.zero_le _⟩ (fun H locs hP hD hS => ?_)
    refine lv_aload_n hx hb dX4_forStatement_83 rfl (lv_at hl 2 rfl) ?_
    refine lv_sipush (v := 283) hx hb dX4_forStatement_84 (by decide) ?_
    obtain ⟨r11, hcr11, hM⟩ := ob_use hM
    refine cl_V (As := [.int 283]) (rest := []) (wP cI ad r11 ++ wK cI ad o_tokens ++ wT cI ad r10.2) [] ⟨hx, hb, hml, hown, hts⟩ (c_Parser_takeClosing l D cI sd ad r10.1 o_tokens 283 r11 hcr11) (cwV2 hts q735 mvX4_takeClosing rfl rfl ⟨(mxN (Nat.le_of_ble_eq_true rfl)), (mxN (Nat.le_of_ble_eq_true rfl))⟩) hK hE hA hP hD hS 0 (T := TX4) (N := 12) (ci := 4) rfl rfl [0, 1, 2, 3, 4] rfl (by decide) rfl rfl rfl rfl rfl rfl hl.1 (Nat.le_of_ble_eq_true rfl) dX4_forStatement_87 ⟨Nat.zero_le _, Nat.zero_le _⟩ (fun H locs hP hD hS => ?_)
    cases hM
    exact rt_v hx hb hr hlk hP hD hS rfl dX4_forStatement_90
  · replace hM := if_t c8 hM
    refine lv_aload_n hx hb dX4_forStatement_59 rfl (lv_at hl 2 rfl) ?_
    refine lv_sipush (v := 281) hx hb dX4_forStatement_60 (by decide) ?_
    obtain ⟨r12, hcr12, hM⟩ := ob_use hM
    refine cl_V (As := [.int 281]) (rest := []) (wP cI ad r12 ++ wK cI ad o_tokens ++ wT cI ad r7.2) [] ⟨hx, hb, hml, hown, hts⟩ (c_Parser_take l D cI sd ad r7.1 o_tokens 281 r12 hcr12) (cwV2 hts q614 mvX4_take rfl rfl ⟨(mxN (Nat.le_of_ble_eq_true rfl)), (mxN (Nat.le_of_ble_eq_true rfl))⟩) hK hE hA hP hD hS 0 (T := TX4) (N := 12) (ci := 4) rfl rfl [0, 1, 2, 3, 4] rfl (by decide) rfl rfl rfl rfl rfl rfl hl.1 (Nat.le_of_ble_eq_true rfl) dX4_forStatement_63 ⟨Nat.zero_le _, Nat.zero_le _⟩ (fun H locs hP hD hS => ?_)
    refine lv_aload_n hx hb dX4_forStatement_66 rfl (lv_at hl 2 rfl) ?_
    refine lv_iload_n hx hb dX4_forStatement_67 rfl (lv_at hl 0 rfl) ?_
    obtain ⟨r13, hcr13, hM⟩ := ob_use hM
    refine cl_V (As := [.int r3.1]) (rest := []) (wP cI ad r13.1 ++ wK cI ad o_tokens ++ wT cI ad r13.2) [] ⟨hx, hb, hml, hown, hts⟩ (c_Parser_constant l D cI sd ad r12 o_tokens r7.2 r3.1 r13 hcr13) (cwV2 hts q665 mvX4_constant rfl rfl ⟨(mxN (Nat.le_of_ble_eq_true rfl)), (mxN (Nat.le_of_ble_eq_true rfl))⟩) hK hE hA hP hD hS 0 (T := TX4) (N := 12) (ci := 4) rfl rfl [0, 1, 2, 3, 4, 5, 6, 7, 8, 9, 10, 11, 12] rfl (by decide) rfl rfl rfl rfl rfl rfl hl.1 (Nat.le_of_ble_eq_true rfl) dX4_forStatement_68 ⟨Nat.zero_le _, Nat.zero_le _⟩ (fun H locs hP hD hS => ?_)
    refine lv_aload_n hx hb dX4_forStatement_71 rfl (lv_at hl 2 rfl) ?_
    refine lv_sipush (v := 282) hx hb dX4_forStatement_72 (by decide) ?_
    obtain ⟨r14, hcr14, hM⟩ := ob_use hM
    refine cl_V (As := [.int 282]) (rest := []) (wP cI ad r14 ++ wK cI ad o_tokens ++ wT cI ad r13.2) [] ⟨hx, hb, hml, hown, hts⟩ (c_Parser_take l D cI sd ad r13.1 o_tokens 282 r14 hcr14) (cwV2 hts q614 mvX4_take rfl rfl ⟨(mxN (Nat.le_of_ble_eq_true rfl)), (mxN (Nat.le_of_ble_eq_true rfl))⟩) hK hE hA hP hD hS 0 (T := TX4) (N := 12) (ci := 4) rfl rfl [0, 1, 2, 3, 4] rfl (by decide) rfl rfl rfl rfl rfl rfl hl.1 (Nat.le_of_ble_eq_true rfl) dX4_forStatement_75 ⟨Nat.zero_le _, Nat.zero_le _⟩ (fun H locs hP hD hS => ?_)
    refine lv_aload_n hx hb dX4_forStatement_78 rfl (lv_at hl 2 rfl) ?_
    refine lv_iload_n hx hb dX4_forStatement_79 rfl (lv_at hl 0 rfl) ?_
    obtain ⟨r15, hcr15, hM⟩ := ob_use hM
    refine cl_V (As := [.int r3.1]) (rest := []) (wP cI ad r15.1 ++ wK cI ad o_tokens ++ wT cI ad r15.2) [] ⟨hx, hb, hml, hown, hts⟩ (H_body r14 o_tokens r13.2 r3.1 r15 hcr15) (cwV2 hts q703 mvX4_body rfl rfl ⟨mxF0 (by decide), mxL0 (by decide)⟩) hK hE hA hP hD hS 0 (T := TX4) (N := 12) (ci := 4) rfl rfl [0, 1, 2, 3, 4, 5, 6, 7, 8, 9, 10, 11, 12] rfl (by decide) rfl rfl rfl rfl rfl rfl hl.1 (Nat.le_of_ble_eq_true rfl) dX4_forStatement_80 ⟨Nat.zero_le _, Nat.zero_le _⟩ (fun H locs hP hD hS => ?_)
    refine lv_aload_n hx hb dX4_forStatement_83 rfl (lv_at hl 2 rfl) ?_
    refine lv_sipush (v := 283) hx hb dX4_forStatement_84 (by decide) ?_
    obtain ⟨r16, hcr16, hM⟩ := ob_use hM
    refine cl_V (As := [.int 283]) (rest := []) (wP cI ad r16 ++ wK cI ad o_tokens ++ wT cI ad r15.2) [] ⟨hx, hb, hml, hown, hts⟩ (c_Parser_takeClosing l D cI sd ad r15.1 o_tokens 283 r16 hcr16) (cwV2 hts q735 mvX4_takeClosing rfl rfl ⟨(mxN (Nat.le_of_ble_eq_true rfl)), (mxN (Nat.le_of_ble_eq_true rfl))⟩) hK hE hA hP hD hS 0 (T := TX4) (N := 12) (ci := 4) rfl rfl [0, 1, 2, 3, 4] rfl (by decide) rfl rfl rfl rfl rfl rfl hl.1 (Nat.le_of_ble_eq_true rfl) dX4_forStatement_87 ⟨Nat.zero_le _, Nat.zero_le _⟩ (fun H locs hP hD hS => ?_)
    cases hM
    exact rt_v hx hb hr hlk hP hD hS rfl dX4_forStatement_90

set_option maxHeartbeats 4000000 in
set_option maxRecDepth 100000 in
theorem c_Parser_ifStatement (l : Launch) (D : va_G) (cI : ClassId) (sd : Nat → Nat) (ad : Nat → Nat) (fr lo : Nat) (f_body : S_Parser → S_Tokens → S_Tree → Int32 → Option (S_Parser × S_Tree)) (H_body : ∀ (o_this : S_Parser) (o_tokens : S_Tokens) (o_tree : S_Tree) (a1 : Int32) (res : S_Parser × S_Tree), f_body o_this o_tokens o_tree a1 = some res → Ctr l D cI sd yX4_body (wsM yX4_body cX4_body 5 (Option.none : Option Jvm.ClassFile.FieldType)) { frames := fr, cells := 0, slots := 0, locals := lo } [.ref (ad 22), .int a1] (wP cI ad o_this ++ wK cI ad o_tokens ++ wT cI ad o_tree) (wP cI ad res.1 ++ wK cI ad o_tokens ++ wT cI ad res.2) none) (o_this : S_Parser) (o_tokens : S_Tokens) (o_tree : S_Tree) (a1 : Int32) (res : S_Parser × S_Tree) (hM : f_Parser_ifStatement f_body o_this o_tokens o_tree a1 = some res) : Ctr l D cI sd yX4_ifStatement (wsM yX4_ifStatement cX4_ifStatement 4 (Option.none : Option Jvm.ClassFile.FieldType)) { frames := max (fr + 1) 263, cells := 0, slots := 0, locals := max (lo + 24) 6973 } [.ref (ad 22), .int a1] (wP cI ad o_this ++ wK cI ad o_tokens ++ wT cI ad o_tree) (wP cI ad res.1 ++ wK cI ad o_tokens ++ wT cI ad res.2) none := by
  refine Ctr.of (cc := cX4_ifStatement) (maxL := 4) (own := RX4) (by decide +kernel) rfl rfl (Nat.le_of_ble_eq_true rfl) ?_
  intro p e s m below meth c A ls hx hb hr hml hown hts hlk hK hE hA hP hD hS hl
  have hl : lv_has ls 4 [(0, .ref (ad 22)), (1, .int a1)] := hl
  unfold f_Parser_ifStatement at hM
  refine lv_aload_n hx hb dX4_ifStatement_0 rfl (lv_at hl 0 rfl) ?_
  refine va_get (D := D) (ci := 4) (v := .ref (ad 14)) (C := RX4) (T := TX4) (N := 12) hx hb hts layX4 hown hK hP 0 rfl rfl 1 (by decide) (hts _ (inA q398)) (fun _ h9 => h9) rfl dX4_ifStatement_1 ?_
  refine lv_iload_n hx hb dX4_ifStatement_4 rfl (lv_at hl 1 rfl) ?_
  refine lv_bipush (v := 15) hx hb dX4_ifStatement_5 (by decide) ?_
  refine lv_aload_n hx hb dX4_ifStatement_7 rfl (lv_at hl 0 rfl) ?_
  refine va_get (D := D) (ci := 4) (v := .int o_this.2.2.1) (C := RX4) (T := TX4) (N := 12) hx hb hts layX4 hown hK hP 0 rfl rfl 4 (by decide) (hts _ (inA q401)) (fun _ h9 => h9) rfl dX4_ifStatement_8 ?_
  refine lv_iconst (v := 0) hx hb dX4_ifStatement_11 (by decide) ?_
  obtain ⟨r1, hcr1, hM⟩ := ob_use hM
  refine cl_V (As := [.int a1, .int 15, .int o_this.2.2.1, .int 0]) (rest := []) (wP cI ad o_this ++ wK cI ad o_tokens ++ wT cI ad r1.2) (.int r1.1 :: []) ⟨hx, hb, hml, hown, hts⟩ (c_Tree_add l D cI sd ad o_tree a1 15 o_this.2.2.1 0 r1 hcr1) (cwV2 hts q622 mvX3_add rfl rfl ⟨(mxN (Nat.le_of_ble_eq_true rfl)), (mxN (Nat.le_of_ble_eq_true rfl))⟩) hK hE hA hP hD hS 5 (T := TX3) (N := 8) (ci := 3) rfl rfl [5, 6, 7, 8, 9, 10, 11, 12] rfl (by decide) rfl rfl rfl rfl rfl rfl hl.1 (Nat.le_of_ble_eq_true rfl) dX4_ifStatement_12 ⟨Nat.zero_le _, Nat.zero_le _⟩ (fun H locs hP hD hS => ?_)
  refine lv_istore_n (lv' := [(2, .int r1.1), (0, .ref (ad 22)), (1, .int a1)]) hx hb dX4_ifStatement_15 rfl hl (by decide) rfl (fun ls hl => ?_)
  refine lv_aload_n hx hb dX4_ifStatement_16 rfl (lv_at hl 1 rfl) ?_
  obtain ⟨r2, hcr2, hM⟩ := ob_use hM
  refine cl_V (As := []) (rest := []) (wP cI ad r2 ++ wK cI ad o_tokens ++ wT cI ad r1.2) [] ⟨hx, hb, hml, hown, hts⟩ (c_Parser_takeOpening l D cI sd ad o_this o_tokens r2 hcr2) (cwV2 hts q715 mvX4_takeOpening rfl rfl ⟨(mxN (Nat.le_of_ble_eq_true rfl)), (mxN (Nat.le_of_ble_eq_true rfl))⟩) hK hE hA hP hD hS 0 (T := TX4) (N := 12) (ci := 4) rfl rfl [0, 1, 2, 3, 4] rfl (by decide) rfl rfl rfl rfl rfl rfl hl.1 (Nat.le_of_ble_eq_true rfl) dX4_ifStatement_17 ⟨Nat.zero_le _, Nat.zero_le _⟩ (fun H locs hP hD hS => ?_)
  refine lv_aload_n hx hb dX4_ifStatement_20 rfl (lv_at hl 1 rfl) ?_
  refine lv_iload_n hx hb dX4_ifStatement_21 rfl (lv_at hl 0 rfl) ?_
  obtain ⟨r3, hcr3, hM⟩ := ob_use hM
  refine cl_V (As := [.int r1.1]) (rest := []) (wP cI ad r3.1 ++ wK cI ad o_tokens ++ wT cI ad r3.2) [] ⟨hx, hb, hml, hown, hts⟩ (c_Parser_outermostExpression l D cI sd ad r2 o_tokens r1.2 r1.1 r3 hcr3) (cwV2 hts q723 mvX4_outermostExpression rfl rfl ⟨(mxN (Nat.le_of_ble_eq_true rfl)), (mxN (Nat.le_of_ble_eq_true rfl))⟩) hK hE hA hP hD hS 0 (T := TX4) (N := 12) (ci := 4) rfl rfl [0, 1, 2, 3, 4, 5, 6, 7, 8, 9, 10, 11, 12] rfl (by decide) rfl rfl rfl rfl rfl rfl hl.1 (Nat.le_of_ble_eq_true rfl) dX4_ifStatement_22 ⟨Nat.zero_le _, Nat.zero_le _⟩ (fun H locs hP hD hS => ?_)
  refine lv_aload_n hx hb dX4_ifStatement_25 rfl (lv_at hl 1 rfl) ?_
  refine lv_sipush (v := 273) hx hb dX4_ifStatement_26 (by decide) ?_
  obtain ⟨r4, hcr4, hM⟩ := ob_use hM
  refine cl_V (As := [.int 273]) (rest := []) (wP cI ad r4 ++ wK cI ad o_tokens ++ wT cI ad r3.2) [] ⟨hx, hb, hml, hown, hts⟩ (c_Parser_take l D cI sd ad r3.1 o_tokens 273 r4 hcr4) (cwV2 hts q614 mvX4_take rfl rfl ⟨(mxN (Nat.le_of_ble_eq_true rfl)), (mxN (Nat.le_of_ble_eq_true rfl))⟩) hK hE hA hP hD hS 0 (T := TX4) (N := 12) (ci := 4) rfl rfl [0, 1, 2, 3, 4] rfl (by decide) rfl rfl rfl rfl rfl rfl hl.1 (Nat.le_of_ble_eq_true rfl) dX4_ifStatement_29 ⟨Nat.zero_le _, Nat.zero_le _⟩ (fun H locs hP hD hS => ?_)
  refine lv_aload_n hx hb dX4_ifStatement_32 rfl (lv_at hl 1 rfl) ?_
  refine lv_iload_n hx hb dX4_ifStatement_33 rfl (lv_at hl 0 rfl) ?_
  obtain ⟨r5, hcr5, hM⟩ := ob_use hM
  refine cl_V (As := [.int r1.1]) (rest := []) (wP cI ad r5.1 ++ wK cI ad o_tokens ++ wT cI ad r5.2) [] ⟨hx, hb, hml, hown, hts⟩ (H_body r4 o_tokens r3.2 r1.1 r5 hcr5) (cwV2 hts q703 mvX4_body rfl rfl ⟨mxF0 (by decide), mxL0 (by decide)⟩) hK hE hA hP hD hS 0 (T := TX4) (N := 12) (ci := 4) rfl rfl [0, 1, 2, 3, 4, 5, 6, 7, 8, 9, 10, 11, 12] rfl (by decide) rfl rfl rfl rfl rfl rfl hl.1 (Nat.le_of_ble_eq_true rfl) dX4_ifStatement_34 ⟨Nat.zero_le _, Nat.zero_le _⟩ (fun H locs hP hD hS => ?_)
  refine lv_iconst (v := 0) hx hb dX4_ifStatement_37 (by decide) ?_
  refine lv_istore_n (lv' := [(3, .int 0), (2, .int r1.1), (0, .ref (ad 22)), (1, .int a1)]) hx hb dX4_ifStatement_38 rfl hl (by decide) rfl (fun ls hl => ?_)
  have lp_L39 : ∀ (w2_L39 : Int32) (o_tokens_L39 : S_Tokens) (n : Nat) (v3_L39 : Int32) (o_this_L39 : S_Parser) (o_tree_L39 : S_Tree) (out_L39 : S_Parser × S_Tree) (H : Heap) (locs : List Loc) (ls : Array Slot), f_Parser_ifStatement_L39 f_body w2_L39 o_tokens_L39 n v3_L39 o_this_L39 o_tree_L39 = some out_L39 → va_P D vwCl (wP cI ad o_this_L39 ++ wK cI ad o_tokens_L39 ++ wT cI ad o_tree_L39) H → va_D A (wP cI ad o_this_L39 ++ wK cI ad o_tokens_L39 ++ wT cI ad o_tree_L39) → va_S A s.heap H locs → lv_has ls 4 [(3, .int v3_L39), (2, .int w2_L39), (0, .ref (ad 22))] → (∀ (H : Heap) (locs : List Loc) (ls : Array Slot), va_P D vwCl (wP cI ad out_L39.1 ++ wK cI ad o_tokens_L39 ++ wT cI ad out_L39.2) H → va_D A (wP cI ad out_L39.1 ++ wK cI ad o_tokens_L39 ++ wT cI ad out_L39.2) → va_S A s.heap H locs → lv_has ls 4 [(2, .int w2_L39), (0, .ref (ad 22))] → W p l e { frames := max (fr + 1) 263, cells := 0, slots := 0, locals := max (lo + 24) 6973 } s m [.ref (ad 22), .int a1].toArray below meth c H locs 0 0 (MQ below (CQ D A (wP cI ad res.1 ++ wK cI ad o_tokens ++ wT cI ad res.2) none) [.ref (ad 22), .int a1].toArray s 0 0 A) (F0 m 86 ls [])) → W p l e { frames := max (fr + 1) 263, cells := 0, slots := 0, locals := max (lo + 24) 6973 } s m [.ref (ad 22), .int a1].toArray below meth c H locs 0 0 (MQ below (CQ D A (wP cI ad res.1 ++ wK cI ad o_tokens ++ wT cI ad res.2) none) [.ref (ad 22), .int a1].toArray s 0 0 A) (F0 m 39 ls []) := by
    intro w2_L39 o_tokens_L39 n
    induction n with
    | zero => intro v3_L39 o_this_L39 o_tree_L39 out_L39 H locs ls hM; exact absurd (show none = some _ from hM) (by simp)
    | succ n ih_L39 =>
      intro v3_L39 o_this_L39 o_tree_L39 out_L39 H locs ls hM hP hD hS hl kx_L39
      rw [f_Parser_ifStatement_L39] at hM
      refine lv_iload_n hx hb dX4_ifStatement_39 rfl (lv_at hl 0 rfl) ?_
      refine lv_sipush (v := 8192) hx hb dX4_ifStatement_40 (by decide) ?_
      refine lv_icmp_ge (tgt := 86) hx hb dX4_ifStatement_43 (by decide) (fun c1491 => ?_) (fun c1491 => ?_)
      · replace hM := if_t c1491 hM
        cases hM
        exact kx_L39 _ _ _ hP hD hS (lv_sub hl [1, 2] rfl)
      · replace hM := if_f c1491 hM
        refine lv_aload_n hx hb dX4_ifStatement_46 rfl (lv_at hl 2 rfl) ?_
        refine va_get (D := D) (ci := 4) (v := .int o_this_L39.2.1) (C := RX4) (T := TX4) (N := 12) hx hb hts layX4 hown hK hP 0 rfl rfl 3 (by decide) (hts _ (inA q400)) (fun _ h9 => h9) rfl dX4_ifStatement_47 ?_
        refine lv_sipush (v := 274) hx hb dX4_ifStatement_50 (by decide) ?_
        refine lv_icmp_ne (tgt := 86) hx hb dX4_ifStatement_53 (by decide) (fun c1492 => ?_) (fun c1492 => ?_)
        · replace hM := if_f c1492 hM
          cases hM
          exact kx_L39 _ _ _ hP hD hS (lv_sub hl [1, 2] rfl)
        · replace hM := if_t c1492 hM
          refine lv_aload_n hx hb dX4_ifStatement_56 rfl (lv_at hl 2 rfl) ?_
          refine lv_sipush (v := 274) hx hb dX4_ifStatement_57 (by decide) ?_
          obtain ⟨r1493, hcr1493, hM⟩ := ob_use hM
          refine cl_V (As := [.int 274]) (rest := []) (wP cI ad r1493 ++ wK cI ad o_tokens_L39 ++ wT cI ad o_tree_L39) [] ⟨hx, hb, hml, hown, hts⟩ (c_Parser_take l D cI sd ad o_this_L39 o_tokens_L39 274 r1493 hcr1493) (cwV2 hts q614 mvX4_take rfl rfl ⟨(mxN (Nat.le_of_ble_eq_true rfl)), (mxN (Nat.le_of_ble_eq_true rfl))⟩) hK hE hA hP hD hS 0 (T := TX4) (N := 12) (ci := 4) rfl rfl [0, 1, 2, 3, 4] rfl (by decide) rfl rfl rfl rfl rfl rfl hl.1 (Nat.le_of_ble_eq_true rfl) dX4_ifStatement_60 ⟨Nat.zero_le _, Nat.zero_le _⟩ (fun H locs hP hD hS => ?_)
          refine lv_aload_n hx hb dX4_ifStatement_63 rfl (lv_at hl 2 rfl) ?_
          refine lv_iload_n hx hb dX4_ifStatement_64 rfl (lv_at hl 1 rfl) ?_
          obtain ⟨r1494, hcr1494, hM⟩ := ob_use hM
          refine cl_V (As := [.int w2_L39]) (rest := []) (wP cI ad r1494.1 ++ wK cI ad o_tokens_L39 ++ wT cI ad r1494.2) [] ⟨hx, hb, hml, hown, hts⟩ (c_Parser_outermostExpression l D cI sd ad r1493 o_tokens_L39 o_tree_L39 w2_L39 r1494 hcr1494) (cwV2 hts q723 mvX4_outermostExpression rfl rfl ⟨(mxN (Nat.le_of_ble_eq_true rfl)), (mxN (Nat.le_of_ble_eq_true rfl))⟩) hK hE hA hP hD hS 0 (T := TX4) (N := 12) (ci := 4) rfl rfl [0, 1, 2, 3, 4, 5, 6, 7, 8, 9, 10, 11, 12] rfl (by decide) rfl rfl rfl rfl rfl rfl hl.1 (Nat.le_of_ble_eq_true rfl) dX4_ifStatement_65 ⟨Nat.zero_le _, Nat.zero_le _⟩ (fun H locs hP hD hS => ?_)
          refine lv_aload_n hx hb dX4_ifStatement_68 rfl (lv_at hl 2 rfl) ?_
          refine lv_sipush (v := 273) hx hb dX4_ifStatement_69 (by decide) ?_
          obtain ⟨r1495, hcr1495, hM⟩ := ob_use hM
          refine cl_V (As := [.int 273]) (rest := []) (wP cI ad r1495 ++ wK cI ad o_tokens_L39 ++ wT cI ad r1494.2) [] ⟨hx, hb, hml, hown, hts⟩ (c_Parser_take l D cI sd ad r1494.1 o_tokens_L39 273 r1495 hcr1495) (cwV2 hts q614 mvX4_take rfl rfl ⟨(mxN (Nat.le_of_ble_eq_true rfl)), (mxN (Nat.le_of_ble_eq_true rfl))⟩) hK hE hA hP hD hS 0 (T := TX4) (N := 12) (ci := 4) rfl rfl [0, 1, 2, 3, 4] rfl (by decide) rfl rfl rfl rfl rfl rfl hl.1 (Nat.le_of_ble_eq_true rfl) dX4_ifStatement_72 ⟨Nat.zero_le _, Nat.zero_le _⟩ (fun H locs hP hD hS => ?_)
          refine lv_aload_n hx hb dX4_ifStatement_75 rfl (lv_at hl 2 rfl) ?_
          refine lv_iload_n hx hb dX4_ifStatement_76 rfl (lv_at hl 1 rfl) ?_
          obtain ⟨r1496, hcr1496, hM⟩ := ob_use hM
          refine cl_V (As := [.int w2_L39]) (rest := []) (wP cI ad r1496.1 ++ wK cI ad o_tokens_L39 ++ wT cI ad r1496.2) [] ⟨hx, hb, hml, hown, hts⟩ (H_body r1495 o_tokens_L39 r1494.2 w2_L39 r1496 hcr1496) (cwV2 hts q703 mvX4_body rfl rfl ⟨mxF0 (by decide), mxL0 (by decide)⟩) hK hE hA hP hD hS 0 (T := TX4) (N := 12) (ci := 4) rfl rfl [0, 1, 2, 3, 4, 5, 6, 7, 8, 9, 10, 11, 12] rfl (by decide) rfl rfl rfl rfl rfl rfl hl.1 (Nat.le_of_ble_eq_true rfl) dX4_ifStatement_77 ⟨Nat.zero_le _, Nat.zero_le _⟩ (fun H locs hP hD hS => ?_)
          obtain ⟨x1497, ex1497⟩ : ∃ y : Int32, y = v3_L39 + 1 := ⟨_, rfl⟩
          replace hM := nm_use ex1497 hM
          refine lv_iinc (v := x1497) (lv' := [(3, .int x1497), (2, .int w2_L39), (0, .ref (ad 22))]) hx hb dX4_ifStatement_80 hl (k := 0) rfl (by rw [ex1497]; rfl) (by decide) rfl (fun ls hl => ?_)
          refine lv_goto (tgt := 39) hx hb dX4_ifStatement_83 (by decide) ?_
          exact ih_L39 x1497 r1496.1 r1496.2 out_L39 _ _ _ hM hP hD hS (lv_sub hl [0, 1, 2] rfl) kx_L39
  obtain ⟨r6, hcr6, hM⟩ := ob_use hM
  refine lp_L39 r1.1 o_tokens FU 0 r5.1 r5.2 r6 _ _ _ hcr6 hP hD hS (lv_sub hl [0, 1, 2] rfl) (fun H locs ls hP hD hS hl => ?_)
  refine lv_aload_n hx hb dX4_ifStatement_86 rfl (lv_at hl 1 rfl) ?_
  refine va_get (D := D) (ci := 4) (v := .int r6.1.2.1) (C := RX4) (T := TX4) (N := 12) hx hb hts layX4 hown hK hP 0 rfl rfl 3 (by decide) (hts _ (inA q400)) (fun _ h9 => h9) rfl dX4_ifStatement_87 ?_
  refine lv_sipush (v := 275) hx hb dX4_ifStatement_90 (by decide) ?_
  refine lv_icmp_ne (tgt := 108) hx hb dX4_ifStatement_93 (by decide) (fun c7 => ?_) (fun c7 => ?_)
  · replace hM := if_f c7 hM
    refine lv_aload_n hx hb dX4_ifStatement_108 rfl (lv_at hl 1 rfl) ?_
    refine lv_sipush (v := 276) hx hb dX4_ifStatement_109 (by decide) ?_
    obtain ⟨r8, hcr8, hM⟩ := ob_use hM
    refine cl_V (As := [.int 276]) (rest := []) (wP cI ad r8 ++ wK cI ad o_tokens ++ wT cI ad r6.2) [] ⟨hx, hb, hml, hown, hts⟩ (c_Parser_takeClosing l D cI sd ad r6.1 o_tokens 276 r8 hcr8) (cwV2 hts q735 mvX4_takeClosing rfl rfl ⟨(mxN (Nat.le_of_ble_eq_true rfl)), (mxN (Nat.le_of_ble_eq_true rfl))⟩) hK hE hA hP hD hS 0 (T := TX4) (N := 12) (ci := 4) rfl rfl [0, 1, 2, 3, 4] rfl (by decide) rfl rfl rfl rfl rfl rfl hl.1 (Nat.le_of_ble_eq_true rfl) dX4_ifStatement_112 ⟨Nat.zero_le _, Nat.zero_le _⟩ (fun H locs hP hD hS => ?_)
    cases hM
    exact rt_v hx hb hr hlk hP hD hS rfl dX4_ifStatement_115
  · replace hM := if_t c7 hM
    refine lv_aload_n hx hb dX4_ifStatement_96 rfl (lv_at hl 1 rfl) ?_
    refine lv_sipush (v := 275) hx hb dX4_ifStatement_97 (by decide) ?_
    obtain ⟨r9, hcr9, hM⟩ := ob_use hM
    refine cl_V (As := [.int 275]) (rest := []) (wP cI ad r9 ++ wK cI ad o_tokens ++ wT cI ad r6.2) [] ⟨hx, hb, hml, hown, hts⟩ (c_Parser_take l D cI sd ad r6.1 o_tokens 275 r9 hcr9) (cwV2 hts q614 mvX4_take rfl rfl ⟨(mxN (Nat.le_of_ble_eq_true rfl)), (mxN (Nat.le_of_ble_eq_true rfl))⟩) hK hE hA hP hD hS 0 (T := TX4) (N := 12) (ci := 4) rfl rfl [0, 1, 2, 3, 4] rfl (by decide) rfl rfl rfl rfl rfl rfl hl.1 (Nat.le_of_ble_eq_true rfl) dX4_ifStatement_100 ⟨Nat.zero_le _, Nat.zero_le _⟩ (fun H locs hP hD hS => ?_)
    refine lv_aload_n hx hb dX4_ifStatement_103 rfl (lv_at hl 1 rfl) ?_
    refine lv_iload_n hx hb dX4_ifStatement_104 rfl (lv_at hl 0 rfl) ?_
    obtain ⟨r10, hcr10, hM⟩ := ob_use hM
    refine cl_V (As := [.int r1.1]) (rest := []) (wP cI ad r10.1 ++ wK cI ad o_tokens ++ wT cI ad r10.2) [] ⟨hx, hb, hml, hown, hts⟩ (H_body r9 o_tokens r6.2 r1.1 r10 hcr10) (cwV2 hts q703 mvX4_body rfl rfl ⟨mxF0 (by decide), mxL0 (by decide)⟩) hK hE hA hP hD hS 0 (T := TX4) (N := 12) (ci := 4) rfl rfl [0, 1, 2, 3, 4, 5, 6, 7, 8, 9, 10, 11, 12] rfl (by decide) rfl rfl rfl rfl rfl rfl hl.1 (Nat.le_of_ble_eq_true rfl) dX4_ifStatement_105 ⟨Nat.zero_le _, Nat.zero_le _⟩ (fun H locs hP hD hS => ?_)
    refine lv_aload_n hx hb dX4_ifStatement_108 rfl (lv_at hl 1 rfl) ?_
    refine lv_sipush (v := 276) hx hb dX4_ifStatement_109 (by decide) ?_
    obtain ⟨r11, hcr11, hM⟩ := ob_use hM
    refine cl_V (As := [.int 276]) (rest := []) (wP cI ad r11 ++ wK cI ad o_tokens ++ wT cI ad r10.2) [] ⟨hx, hb, hml, hown, hts⟩ (c_Parser_takeClosing l D cI sd ad r10.1 o_tokens 276 r11 hcr11) (cwV2 hts q735 mvX4_takeClosing rfl rfl ⟨(mxN (Nat.le_of_ble_eq_true rfl)), (mxN (Nat.le_of_ble_eq_true rfl))⟩) hK hE hA hP hD hS 0 (T := TX4) (N := 12) (ci := 4) rfl rfl [0, 1, 2, 3, 4] rfl (by decide) rfl rfl rfl rfl rfl rfl hl.1 (Nat.le_of_ble_eq_true rfl) dX4_ifStatement_112 ⟨Nat.zero_le _, Nat.zero_le _⟩ (fun H locs hP hD hS => ?_)
    cases hM
    exact rt_v hx hb hr hlk hP hD hS rfl dX4_ifStatement_115

set_option maxHeartbeats 4000000 in
set_option maxRecDepth 100000 in
theorem c_Parser_invocation (l : Launch) (D : va_G) (cI : ClassId) (sd : Nat → Nat) (ad : Nat → Nat) (o_this : S_Parser) (o_tokens : S_Tokens) (o_tree : S_Tree) (a1 : Int32) (a2 : Int32) (a3 : Int32) (res : S_Parser × S_Tree) (hM : f_Parser_invocation o_this o_tokens o_tree a1 a2 a3 = some res) : Ctr l D cI sd yX4_invocation (wsM yX4_invocation cX4_invocation 9 (Option.none : Option Jvm.ClassFile.FieldType)) { frames := 263, cells := 0, slots := 0, locals := 6973 } [.ref (ad 22), .int a1, .int a2, .int a3] (wP cI ad o_this ++ wK cI ad o_tokens ++ wT cI ad o_tree) (wP cI ad res.1 ++ wK cI ad o_tokens ++ wT cI ad res.2) none := by
  refine Ctr.of (cc := cX4_invocation) (maxL := 9) (own := RX4) (by decide +kernel) rfl rfl (Nat.le_of_ble_eq_true rfl) ?_
  intro p e s m below meth c A ls hx hb hr hml hown hts hlk hK hE hA hP hD hS hl
  have hl : lv_has ls 9 [(0, .ref (ad 22)), (1, .int a1), (2, .int a2), (3, .int a3)] := hl
  unfold f_Parser_invocation at hM
  refine lv_aload_n hx hb dX4_invocation_0 rfl (lv_at hl 0 rfl) ?_
  refine va_get (D := D) (ci := 4) (v := .ref (ad 14)) (C := RX4) (T := TX4) (N := 12) hx hb hts layX4 hown hK hP 0 rfl rfl 1 (by decide) (hts _ (inA q398)) (fun _ h9 => h9) rfl dX4_invocation_1 ?_
  refine lv_iload_n hx hb dX4_invocation_4 rfl (lv_at hl 1 rfl) ?_
  refine lv_bipush (v := 13) hx hb dX4_invocation_5 (by decide) ?_
  refine lv_iload_n hx hb dX4_invocation_7 rfl (lv_at hl 2 rfl) ?_
  refine lv_iload_n hx hb dX4_invocation_8 rfl (lv_at hl 3 rfl) ?_
  obtain ⟨r1, hcr1, hM⟩ := ob_use hM
  refine cl_V (As := [.int a1, .int 13, .int a2, .int a3]) (rest := []) (wP cI ad o_this ++ wK cI ad o_tokens ++ wT cI ad r1.2) (.int r1.1 :: []) ⟨hx, hb, hml, hown, hts⟩ (c_Tree_add l D cI sd ad o_tree a1 13 a2 a3 r1 hcr1) (cwV2 hts q622 mvX3_add rfl rfl ⟨(Nat.le_of_ble_eq_true rfl), (Nat.le_of_ble_eq_true rfl)⟩) hK hE hA hP hD hS 5 (T := TX3) (N := 8) (ci := 3) rfl rfl [5, 6, 7, 8, 9, 10, 11, 12] rfl (by decide) rfl rfl rfl rfl rfl rfl hl.1 (Nat.le_of_ble_eq_true rfl) dX4_invocation_9 ⟨Nat.zero_le _, Nat.zero_le _⟩ (fun H locs hP hD hS => ?_)
  refine lv_istore (lv' := [(4, .int r1.1), (0, .ref (ad 22)), (1, .int a1), (2, .int a2), (3, .int a3)]) hx hb dX4_invocation_12 hl (by decide) rfl (fun ls hl => ?_)
  refine lv_aload_n hx hb dX4_invocation_14 rfl (lv_at hl 1 rfl) ?_
  obtain ⟨r2, hcr2, hM⟩ := ob_use hM
  refine cl_V (As := []) (rest := []) (wP cI ad r2 ++ wK cI ad o_tokens ++ wT cI ad r1.2) [] ⟨hx, hb, hml, hown, hts⟩ (c_Parser_takeOpening l D cI sd ad o_this o_tokens r2 hcr2) (cwV2 hts q715 mvX4_takeOpening rfl rfl ⟨(Nat.le_of_ble_eq_true rfl), (Nat.le_of_ble_eq_true rfl)⟩) hK hE hA hP hD hS 0 (T := TX4) (N := 12) (ci := 4) rfl rfl [0, 1, 2, 3, 4] rfl (by decide) rfl rfl rfl rfl rfl rfl hl.1 (Nat.le_of_ble_eq_true rfl) dX4_invocation_15 ⟨Nat.zero_le _, Nat.zero_le _⟩ (fun H locs hP hD hS => ?_)
  refine lv_aload_n hx hb dX4_invocation_18 rfl (lv_at hl 1 rfl) ?_
  refine va_get (D := D) (ci := 4) (v := .int r2.2.1) (C := RX4) (T := TX4) (N := 12) hx hb hts layX4 hown hK hP 0 rfl rfl 3 (by decide) (hts _ (inA q400)) (fun _ h9 => h9) rfl dX4_invocation_19 ?_
  refine lv_bipush (v := 41) hx hb dX4_invocation_22 (by decide) ?_
  refine lv_icmp_eq (tgt := 31) hx hb dX4_invocation_24 (by decide) (fun c3 => ?_) (fun c3 => ?_)
  · replace hM := if_t c3 hM
    refine lv_iconst (v := 0) hx hb dX4_invocation_31 (by decide) ?_
    refine lv_istore (lv' := [(5, .int 0), (4, .int r1.1), (0, .ref (ad 22)), (1, .int a1), (2, .int a2), (3, .int a3)]) hx hb dX4_invocation_32 hl (by decide) rfl (fun ls hl => ?_)
    refine lv_iconst (v := 0) hx hb dX4_invocation_34 (by decide) ?_
    refine lv_istore (lv' := [(6, .int 0), (5, .int 0), (4, .int r1.1), (0, .ref (ad 22)), (1, .int a1), (2, .int a2), (3, .int a3)]) hx hb dX4_invocation_35 hl (by decide) rfl (fun ls hl => ?_)
    have lp_L37 : ∀ (w4_L37 : Int32) (o_tokens_L37 : S_Tokens) (n : Nat) (v6_L37 : Int32) (v5_L37 : Int32) (o_this_L37 : S_Parser) (o_tree_L37 : S_Tree) (out_L37 : S_Parser × S_Tree) (H : Heap) (locs : List Loc) (ls : Array Slot), f_Parser_invocation_L37 w4_L37 o_tokens_L37 n v6_L37 v5_L37 o_this_L37 o_tree_L37 = some out_L37 → va_P D vwCl (wP cI ad o_this_L37 ++ wK cI ad o_tokens_L37 ++ wT cI ad o_tree_L37) H → va_D A (wP cI ad o_this_L37 ++ wK cI ad o_tokens_L37 ++ wT cI ad o_tree_L37) → va_S A s.heap H locs → lv_has ls 9 [(6, .int v6_L37), (5, .int v5_L37), (4, .int w4_L37), (0, .ref (ad 22))] → (∀ (H : Heap) (locs : List Loc) (ls : Array Slot), va_P D vwCl (wP cI ad out_L37.1 ++ wK cI ad o_tokens_L37 ++ wT cI ad out_L37.2) H → va_D A (wP cI ad out_L37.1 ++ wK cI ad o_tokens_L37 ++ wT cI ad out_L37.2) → va_S A s.heap H locs → lv_has ls 9 [(4, .int w4_L37), (0, .ref (ad 22))] → W p l e { frames := 263, cells := 0, slots := 0, locals := 6973 } s m [.ref (ad 22), .int a1, .int a2, .int a3].toArray below meth c H locs 0 0 (MQ below (CQ D A (wP cI ad res.1 ++ wK cI ad o_tokens ++ wT cI ad res.2) none) [.ref (ad 22), .int a1, .int a2, .int a3].toArray s 0 0 A) (F0 m 100 ls [])) → W p l e { frames := 263, cells := 0, slots := 0, locals := 6973 } s m [.ref (ad 22), .int a1, .int a2, .int a3].toArray below meth c H locs 0 0 (MQ below (CQ D A (wP cI ad res.1 ++ wK cI ad o_tokens ++ wT cI ad res.2) none) [.ref (ad 22), .int a1, .int a2, .int a3].toArray s 0 0 A) (F0 m 37 ls []) := by
      intro w4_L37 o_tokens_L37 n
      induction n with
      | zero => intro v6_L37 v5_L37 o_this_L37 o_tree_L37 out_L37 H locs ls hM; exact absurd (show none = some _ from hM) (by simp)
      | succ n ih_L37 =>
        intro v6_L37 v5_L37 o_this_L37 o_tree_L37 out_L37 H locs ls hM hP hD hS hl kx_L37
        rw [f_Parser_invocation_L37] at hM
        refine lv_iload hx hb dX4_invocation_37 (lv_at hl 1 rfl) ?_
        refine lv_if_eq (tgt := 100) hx hb dX4_invocation_39 (by decide) (fun c1471 => ?_) (fun c1471 => ?_)
        · replace hM := if_t c1471 hM
          cases hM
          exact kx_L37 _ _ _ hP hD hS (lv_sub hl [2, 3] rfl)
        · replace hM := if_f c1471 hM
          refine lv_iload hx hb dX4_invocation_42 (lv_at hl 0 rfl) ?_
          refine lv_sipush (v := 8192) hx hb dX4_invocation_44 (by decide) ?_
          refine lv_icmp_ge (tgt := 100) hx hb dX4_invocation_47 (by decide) (fun c1472 => ?_) (fun c1472 => ?_)
          · replace hM := if_t c1472 hM
            cases hM
            exact kx_L37 _ _ _ hP hD hS (lv_sub hl [2, 3] rfl)
          · replace hM := if_f c1472 hM
            refine lv_aload_n hx hb dX4_invocation_50 rfl (lv_at hl 3 rfl) ?_
            refine va_get (D := D) (ci := 4) (v := .int o_this_L37.2.2.1) (C := RX4) (T := TX4) (N := 12) hx hb hts layX4 hown hK hP 0 rfl rfl 4 (by decide) (hts _ (inA q401)) (fun _ h9 => h9) rfl dX4_invocation_51 ?_
            refine lv_istore (lv' := [(7, .int o_this_L37.2.2.1), (6, .int v6_L37), (5, .int v5_L37), (4, .int w4_L37), (0, .ref (ad 22))]) hx hb dX4_invocation_54 hl (by decide) rfl (fun ls hl => ?_)
            refine lv_aload_n hx hb dX4_invocation_56 rfl (lv_at hl 4 rfl) ?_
            refine va_get (D := D) (ci := 4) (v := .ref (ad 14)) (C := RX4) (T := TX4) (N := 12) hx hb hts layX4 hown hK hP 0 rfl rfl 1 (by decide) (hts _ (inA q398)) (fun _ h9 => h9) rfl dX4_invocation_57 ?_
            refine lv_iload hx hb dX4_invocation_60 (lv_at hl 3 rfl) ?_
            refine lv_bipush (v := 14) hx hb dX4_invocation_62 (by decide) ?_
            refine lv_iload hx hb dX4_invocation_64 (lv_at hl 0 rfl) ?_
            refine lv_aload_n hx hb dX4_invocation_66 rfl (lv_at hl 4 rfl) ?_
            obtain ⟨r1473, hcr1473, hM⟩ := ob_use hM
            refine cl_V (As := []) (rest := [.int o_this_L37.2.2.1, .int 14, .int w4_L37, .ref (ad 14)]) (wP cI ad r1473.2 ++ wK cI ad o_tokens_L37 ++ wT cI ad o_tree_L37) (.int r1473.1 :: [.int o_this_L37.2.2.1, .int 14, .int w4_L37, .ref (ad 14)]) ⟨hx, hb, hml, hown, hts⟩ (c_Parser_takeName l D cI sd ad o_this_L37 o_tokens_L37 r1473 hcr1473) (cwV2 hts q637 mvX4_takeName rfl rfl ⟨(Nat.le_of_ble_eq_true rfl), (Nat.le_of_ble_eq_true rfl)⟩) hK hE hA hP hD hS 0 (T := TX4) (N := 12) (ci := 4) rfl rfl [0, 1, 2, 3, 4] rfl (by decide) rfl rfl rfl rfl rfl rfl hl.1 (Nat.le_of_ble_eq_true rfl) dX4_invocation_67 ⟨Nat.zero_le _, Nat.zero_le _⟩ (fun H locs hP hD hS => ?_)
            obtain ⟨r1474, hcr1474, hM⟩ := ob_use hM
            refine cl_V (As := [.int w4_L37, .int 14, .int o_this_L37.2.2.1, .int r1473.1]) (rest := []) (wP cI ad r1473.2 ++ wK cI ad o_tokens_L37 ++ wT cI ad r1474.2) (.int r1474.1 :: []) ⟨hx, hb, hml, hown, hts⟩ (c_Tree_add l D cI sd ad o_tree_L37 w4_L37 14 o_this_L37.2.2.1 r1473.1 r1474 hcr1474) (cwV2 hts q622 mvX3_add rfl rfl ⟨(Nat.le_of_ble_eq_true rfl), (Nat.le_of_ble_eq_true rfl)⟩) hK hE hA hP hD hS 5 (T := TX3) (N := 8) (ci := 3) rfl rfl [5, 6, 7, 8, 9, 10, 11, 12] rfl (by decide) rfl rfl rfl rfl rfl rfl hl.1 (Nat.le_of_ble_eq_true rfl) dX4_invocation_70 ⟨Nat.zero_le _, Nat.zero_le _⟩ (fun H locs hP hD hS => ?_)
            refine lv_istore (lv' := [(8, .int r1474.1), (7, .int o_this_L37.2.2.1), (6, .int v6_L37), (5, .int v5_L37), (4, .int w4_L37), (0, .ref (ad 22))]) hx hb dX4_invocation_73 hl (by decide) rfl (fun ls hl => ?_)
            refine lv_aload_n hx hb dX4_invocation_75 rfl (lv_at hl 5 rfl) ?_
            refine lv_sipush (v := 14909) hx hb dX4_invocation_76 (by decide) ?_
            obtain ⟨r1475, hcr1475, hM⟩ := ob_use hM
            refine cl_V (As := [.int 14909]) (rest := []) (wP cI ad r1475 ++ wK cI ad o_tokens_L37 ++ wT cI ad r1474.2) [] ⟨hx, hb, hml, hown, hts⟩ (c_Parser_take l D cI sd ad r1473.2 o_tokens_L37 14909 r1475 hcr1475) (cwV2 hts q614 mvX4_take rfl rfl ⟨(Nat.le_of_ble_eq_true rfl), (Nat.le_of_ble_eq_true rfl)⟩) hK hE hA hP hD hS 0 (T := TX4) (N := 12) (ci := 4) rfl rfl [0, 1, 2, 3, 4] rfl (by decide) rfl rfl rfl rfl rfl rfl hl.1 (Nat.le_of_ble_eq_true rfl) dX4_invocation_79 ⟨Nat.zero_le _, Nat.zero_le _⟩ (fun H locs hP hD hS => ?_)
            refine lv_aload_n hx hb dX4_invocation_82 rfl (lv_at hl 5 rfl) ?_
            refine lv_iload hx hb dX4_invocation_83 (lv_at hl 0 rfl) ?_
            obtain ⟨r1476, hcr1476, hM⟩ := ob_use hM
            refine cl_V (As := [.int r1474.1]) (rest := []) (wP cI ad r1476.1 ++ wK cI ad o_tokens_L37 ++ wT cI ad r1476.2) [] ⟨hx, hb, hml, hown, hts⟩ (c_Parser_outermostExpression l D cI sd ad r1475 o_tokens_L37 r1474.2 r1474.1 r1476 hcr1476) (cwV2 hts q723 mvX4_outermostExpression rfl rfl ⟨(Nat.le_of_ble_eq_true rfl), (Nat.le_of_ble_eq_true rfl)⟩) hK hE hA hP hD hS 0 (T := TX4) (N := 12) (ci := 4) rfl rfl [0, 1, 2, 3, 4, 5, 6, 7, 8, 9, 10, 11, 12] rfl (by decide) rfl rfl rfl rfl rfl rfl hl.1 (Nat.le_of_ble_eq_true rfl) dX4_invocation_85 ⟨Nat.zero_le _, Nat.zero_le _⟩ (fun H locs hP hD hS => ?_)
            refine lv_aload_n hx hb dX4_invocation_88 rfl (lv_at hl 5 rfl) ?_
            obtain ⟨r1477, hcr1477, hM⟩ := ob_use hM
            refine cl_V (As := []) (rest := []) (wP cI ad r1477.2 ++ wK cI ad o_tokens_L37 ++ wT cI ad r1476.2) (.int r1477.1 :: []) ⟨hx, hb, hml, hown, hts⟩ (c_Parser_takeComma l D cI sd ad r1476.1 o_tokens_L37 r1477 hcr1477) (cwV2 hts q743 mvX4_takeComma rfl rfl ⟨(Nat.le_of_ble_eq_true rfl), (Nat.le_of_ble_eq_true rfl)⟩) hK hE hA hP hD hS 0 (T := TX4) (N := 12) (ci := 4) rfl rfl [0, 1, 2, 3, 4] rfl (by decide) rfl rfl rfl rfl rfl rfl hl.1 (Nat.le_of_ble_eq_true rfl) dX4_invocation_89 ⟨Nat.zero_le _, Nat.zero_le _⟩ (fun H locs hP hD hS => ?_)
            refine lv_istore (lv' := [(5, .int r1477.1), (8, .int r1474.1), (7, .int o_this_L37.2.2.1), (6, .int v6_L37), (4, .int w4_L37), (0, .ref (ad 22))]) hx hb dX4_invocation_92 hl (by decide) rfl (fun ls hl => ?_)
            obtain ⟨x1478, ex1478⟩ : ∃ y : Int32, y = v6_L37 + 1 := ⟨_, rfl⟩
            replace hM := nm_use ex1478 hM
            refine lv_iinc (v := x1478) (lv' := [(6, .int x1478), (5, .int r1477.1), (8, .int r1474.1), (7, .int o_this_L37.2.2.1), (4, .int w4_L37), (0, .ref (ad 22))]) hx hb dX4_invocation_94 hl (k := 3) rfl (by rw [ex1478]; rfl) (by decide) rfl (fun ls hl => ?_)
            refine lv_goto (tgt := 37) hx hb dX4_invocation_97 (by decide) ?_
            exact ih_L37 x1478 r1477.1 r1477.2 r1476.2 out_L37 _ _ _ hM hP hD hS (lv_sub hl [0, 1, 4, 5] rfl) kx_L37
    obtain ⟨r4, hcr4, hM⟩ := ob_use hM
    refine lp_L37 r1.1 o_tokens FU 0 0 r2 r1.2 r4 _ _ _ hcr4 hP hD hS (lv_sub hl [0, 1, 2, 3] rfl) (fun H locs ls hP hD hS hl => ?_)
    refine lv_aload_n hx hb dX4_invocation_100 rfl (lv_at hl 1 rfl) ?_
    refine lv_bipush (v := 41) hx hb dX4_invocation_101 (by decide) ?_
    obtain ⟨r5, hcr5, hM⟩ := ob_use hM
    refine cl_V (As := [.int 41]) (rest := []) (wP cI ad r5 ++ wK cI ad o_tokens ++ wT cI ad r4.2) [] ⟨hx, hb, hml, hown, hts⟩ (c_Parser_takeClosing l D cI sd ad r4.1 o_tokens 41 r5 hcr5) (cwV2 hts q735 mvX4_takeClosing rfl rfl ⟨(Nat.le_of_ble_eq_true rfl), (Nat.le_of_ble_eq_true rfl)⟩) hK hE hA hP hD hS 0 (T := TX4) (N := 12) (ci := 4) rfl rfl [0, 1, 2, 3, 4] rfl (by decide) rfl rfl rfl rfl rfl rfl hl.1 (Nat.le_of_ble_eq_true rfl) dX4_invocation_103 ⟨Nat.zero_le _, Nat.zero_le _⟩ (fun H locs hP hD hS => ?_)
    cases hM
    exact rt_v hx hb hr hlk hP hD hS rfl dX4_invocation_106
  · replace hM := if_f c3 hM
    refine lv_iconst (v := 1) hx hb dX4_invocation_27 (by decide) ?_
    refine lv_goto (tgt := 32) hx hb dX4_invocation_28 (by decide) ?_
    refine lv_istore (lv' := [(5, .int 1), (4, .int r1.1), (0, .ref (ad 22)), (1, .int a1), (2, .int a2), (3, .int a3)]) hx hb dX4_invocation_32 hl (by decide) rfl (fun ls hl => ?_)
    refine lv_iconst (v := 0) hx hb dX4_invocation_34 (by decide) ?_
    refine lv_istore (lv' := [(6, .int 0), (5, .int 1), (4, .int r1.1), (0, .ref (ad 22)), (1, .int a1), (2, .int a2), (3, .int a3)]) hx hb dX4_invocation_35 hl (by decide) rfl (fun ls hl => ?_)
    have lp_L37 : ∀ (w4_L37 : Int32) (o_tokens_L37 : S_Tokens) (n : Nat) (v6_L37 : Int32) (v5_L37 : Int32) (o_this_L37 : S_Parser) (o_tree_L37 : S_Tree) (out_L37 : S_Parser × S_Tree) (H : Heap) (locs : List Loc) (ls : Array Slot), f_Parser_invocation_L37 w4_L37 o_tokens_L37 n v6_L37 v5_L37 o_this_L37 o_tree_L37 = some out_L37 → va_P D vwCl (wP cI ad o_this_L37 ++ wK cI ad o_tokens_L37 ++ wT cI ad o_tree_L37) H → va_D A (wP cI ad o_this_L37 ++ wK cI ad o_tokens_L37 ++ wT cI ad o_tree_L37) → va_S A s.heap H locs → lv_has ls 9 [(6, .int v6_L37), (5, .int v5_L37), (4, .int w4_L37), (0, .ref (ad 22))] → (∀ (H : Heap) (locs : List Loc) (ls : Array Slot), va_P D vwCl (wP cI ad out_L37.1 ++ wK cI ad o_tokens_L37 ++ wT cI ad out_L37.2) H → va_D A (wP cI ad out_L37.1 ++ wK cI ad o_tokens_L37 ++ wT cI ad out_L37.2) → va_S A s.heap H locs → lv_has ls 9 [(4, .int w4_L37), (0, .ref (ad 22))] → W p l e { frames := 263, cells := 0, slots := 0, locals := 6973 } s m [.ref (ad 22), .int a1, .int a2, .int a3].toArray below meth c H locs 0 0 (MQ below (CQ D A (wP cI ad res.1 ++ wK cI ad o_tokens ++ wT cI ad res.2) none) [.ref (ad 22), .int a1, .int a2, .int a3].toArray s 0 0 A) (F0 m 100 ls [])) → W p l e { frames := 263, cells := 0, slots := 0, locals := 6973 } s m [.ref (ad 22), .int a1, .int a2, .int a3].toArray below meth c H locs 0 0 (MQ below (CQ D A (wP cI ad res.1 ++ wK cI ad o_tokens ++ wT cI ad res.2) none) [.ref (ad 22), .int a1, .int a2, .int a3].toArray s 0 0 A) (F0 m 37 ls []) := by
      intro w4_L37 o_tokens_L37 n
      induction n with
      | zero => intro v6_L37 v5_L37 o_this_L37 o_tree_L37 out_L37 H locs ls hM; exact absurd (show none = some _ from hM) (by simp)
      | succ n ih_L37 =>
        intro v6_L37 v5_L37 o_this_L37 o_tree_L37 out_L37 H locs ls hM hP hD hS hl kx_L37
        rw [f_Parser_invocation_L37] at hM
        refine lv_iload hx hb dX4_invocation_37 (lv_at hl 1 rfl) ?_
        refine lv_if_eq (tgt := 100) hx hb dX4_invocation_39 (by decide) (fun c1471 => ?_) (fun c1471 => ?_)
        · replace hM := if_t c1471 hM
          cases hM
          exact kx_L37 _ _ _ hP hD hS (lv_sub hl [2, 3] rfl)
        · replace hM := if_f c1471 hM
          refine lv_iload hx hb dX4_invocation_42 (lv_at hl 0 rfl) ?_
          refine lv_sipush (v := 8192) hx hb dX4_invocation_44 (by decide) ?_
          refine lv_icmp_ge (tgt := 100) hx hb dX4_invocation_47 (by decide) (fun c1472 => ?_) (fun c1472 => ?_)
          · replace hM := if_t c1472 hM
            cases hM
            exact kx_L37 _ _ _ hP hD hS (lv_sub hl [2, 3] rfl)
          · replace hM := if_f c1472 hM
            refine lv_aload_n hx hb dX4_invocation_50 rfl (lv_at hl 3 rfl) ?_
            refine va_get (D := D) (ci := 4) (v := .int o_this_L37.2.2.1) (C := RX4) (T := TX4) (N := 12) hx hb hts layX4 hown hK hP 0 rfl rfl 4 (by decide) (hts _ (inA q401)) (fun _ h9 => h9) rfl dX4_invocation_51 ?_
            refine lv_istore (lv' := [(7, .int o_this_L37.2.2.1), (6, .int v6_L37), (5, .int v5_L37), (4, .int w4_L37), (0, .ref (ad 22))]) hx hb dX4_invocation_54 hl (by decide) rfl (fun ls hl => ?_)
            refine lv_aload_n hx hb dX4_invocation_56 rfl (lv_at hl 4 rfl) ?_
            refine va_get (D := D) (ci := 4) (v := .ref (ad 14)) (C := RX4) (T := TX4) (N := 12) hx hb hts layX4 hown hK hP 0 rfl rfl 1 (by decide) (hts _ (inA q398)) (fun _ h9 => h9) rfl dX4_invocation_57 ?_
            refine lv_iload hx hb dX4_invocation_60 (lv_at hl 3 rfl) ?_
            refine lv_bipush (v := 14) hx hb dX4_invocation_62 (by decide) ?_
            refine lv_iload hx hb dX4_invocation_64 (lv_at hl 0 rfl) ?_
            refine lv_aload_n hx hb dX4_invocation_66 rfl (lv_at hl 4 rfl) ?_
            obtain ⟨r1473, hcr1473, hM⟩ := ob_use hM
            refine cl_V (As := []) (rest := [.int o_this_L37.2.2.1, .int 14, .int w4_L37, .ref (ad 14)]) (wP cI ad r1473.2 ++ wK cI ad o_tokens_L37 ++ wT cI ad o_tree_L37) (.int r1473.1 :: [.int o_this_L37.2.2.1, .int 14, .int w4_L37, .ref (ad 14)]) ⟨hx, hb, hml, hown, hts⟩ (c_Parser_takeName l D cI sd ad o_this_L37 o_tokens_L37 r1473 hcr1473) (cwV2 hts q637 mvX4_takeName rfl rfl ⟨(Nat.le_of_ble_eq_true rfl), (Nat.le_of_ble_eq_true rfl)⟩) hK hE hA hP hD hS 0 (T := TX4) (N := 12) (ci := 4) rfl rfl [0, 1, 2, 3, 4] rfl (by decide) rfl rfl rfl rfl rfl rfl hl.1 (Nat.le_of_ble_eq_true rfl) dX4_invocation_67 ⟨Nat.zero_le _, Nat.zero_le _⟩ (fun H locs hP hD hS => ?_)
            obtain ⟨r1474, hcr1474, hM⟩ := ob_use hM
            refine cl_V (As := [.int w4_L37, .int 14, .int o_this_L37.2.2.1, .int r1473.1]) (rest := []) (wP cI ad r1473.2 ++ wK cI ad o_tokens_L37 ++ wT cI ad r1474.2) (.int r1474.1 :: []) ⟨hx, hb, hml, hown, hts⟩ (c_Tree_add l D cI sd ad o_tree_L37 w4_L37 14 o_this_L37.2.2.1 r1473.1 r1474 hcr1474) (cwV2 hts q622 mvX3_add rfl rfl ⟨(Nat.le_of_ble_eq_true rfl), (Nat.le_of_ble_eq_true rfl)⟩) hK hE hA hP hD hS 5 (T := TX3) (N := 8) (ci := 3) rfl rfl [5, 6, 7, 8, 9, 10, 11, 12] rfl (by decide) rfl rfl rfl rfl rfl rfl hl.1 (Nat.le_of_ble_eq_true rfl) dX4_invocation_70 ⟨Nat.zero_le _, Nat.zero_le _⟩ (fun H locs hP hD hS => ?_)
            refine lv_istore (lv' := [(8, .int r1474.1), (7, .int o_this_L37.2.2.1), (6, .int v6_L37), (5, .int v5_L37), (4, .int w4_L37), (0, .ref (ad 22))]) hx hb dX4_invocation_73 hl (by decide) rfl (fun ls hl => ?_)
            refine lv_aload_n hx hb dX4_invocation_75 rfl (lv_at hl 5 rfl) ?_
            refine lv_sipush (v := 14909) hx hb dX4_invocation_76 (by decide) ?_
            obtain ⟨r1475, hcr1475, hM⟩ := ob_use hM
            refine cl_V (As := [.int 14909]) (rest := []) (wP cI ad r1475 ++ wK cI ad o_tokens_L37 ++ wT cI ad r1474.2) [] ⟨hx, hb, hml, hown, hts⟩ (c_Parser_take l D cI sd ad r1473.2 o_tokens_L37 14909 r1475 hcr1475) (cwV2 hts q614 mvX4_take rfl rfl ⟨(Nat.le_of_ble_eq_true rfl), (Nat.le_of_ble_eq_true rfl)⟩) hK hE hA hP hD hS 0 (T := TX4) (N := 12) (ci := 4) rfl rfl [0, 1, 2, 3, 4] rfl (by decide) rfl rfl rfl rfl rfl rfl hl.1 (Nat.le_of_ble_eq_true rfl) dX4_invocation_79 ⟨Nat.zero_le _, Nat.zero_le _⟩ (fun H locs hP hD hS => ?_)
            refine lv_aload_n hx hb dX4_invocation_82 rfl (lv_at hl 5 rfl) ?_
            refine lv_iload hx hb dX4_invocation_83 (lv_at hl 0 rfl) ?_
            obtain ⟨r1476, hcr1476, hM⟩ := ob_use hM
            refine cl_V (As := [.int r1474.1]) (rest := []) (wP cI ad r1476.1 ++ wK cI ad o_tokens_L37 ++ wT cI ad r1476.2) [] ⟨hx, hb, hml, hown, hts⟩ (c_Parser_outermostExpression l D cI sd ad r1475 o_tokens_L37 r1474.2 r1474.1 r1476 hcr1476) (cwV2 hts q723 mvX4_outermostExpression rfl rfl ⟨(Nat.le_of_ble_eq_true rfl), (Nat.le_of_ble_eq_true rfl)⟩) hK hE hA hP hD hS 0 (T := TX4) (N := 12) (ci := 4) rfl rfl [0, 1, 2, 3, 4, 5, 6, 7, 8, 9, 10, 11, 12] rfl (by decide) rfl rfl rfl rfl rfl rfl hl.1 (Nat.le_of_ble_eq_true rfl) dX4_invocation_85 ⟨Nat.zero_le _, Nat.zero_le _⟩ (fun H locs hP hD hS => ?_)
            refine lv_aload_n hx hb dX4_invocation_88 rfl (lv_at hl 5 rfl) ?_
            obtain ⟨r1477, hcr1477, hM⟩ := ob_use hM
            refine cl_V (As := []) (rest := []) (wP cI ad r1477.2 ++ wK cI ad o_tokens_L37 ++ wT cI ad r1476.2) (.int r1477.1 :: []) ⟨hx, hb, hml, hown, hts⟩ (c_Parser_takeComma l D cI sd ad r1476.1 o_tokens_L37 r1477 hcr1477) (cwV2 hts q743 mvX4_takeComma rfl rfl ⟨(Nat.le_of_ble_eq_true rfl), (Nat.le_of_ble_eq_true rfl)⟩) hK hE hA hP hD hS 0 (T := TX4) (N := 12) (ci := 4) rfl rfl [0, 1, 2, 3, 4] rfl (by decide) rfl rfl rfl rfl rfl rfl hl.1 (Nat.le_of_ble_eq_true rfl) dX4_invocation_89 ⟨Nat.zero_le _, Nat.zero_le _⟩ (fun H locs hP hD hS => ?_)
            refine lv_istore (lv' := [(5, .int r1477.1), (8, .int r1474.1), (7, .int o_this_L37.2.2.1), (6, .int v6_L37), (4, .int w4_L37), (0, .ref (ad 22))]) hx hb dX4_invocation_92 hl (by decide) rfl (fun ls hl => ?_)
            obtain ⟨x1478, ex1478⟩ : ∃ y : Int32, y = v6_L37 + 1 := ⟨_, rfl⟩
            replace hM := nm_use ex1478 hM
            refine lv_iinc (v := x1478) (lv' := [(6, .int x1478), (5, .int r1477.1), (8, .int r1474.1), (7, .int o_this_L37.2.2.1), (4, .int w4_L37), (0, .ref (ad 22))]) hx hb dX4_invocation_94 hl (k := 3) rfl (by rw [ex1478]; rfl) (by decide) rfl (fun ls hl => ?_)
            refine lv_goto (tgt := 37) hx hb dX4_invocation_97 (by decide) ?_
            exact ih_L37 x1478 r1477.1 r1477.2 r1476.2 out_L37 _ _ _ hM hP hD hS (lv_sub hl [0, 1, 4, 5] rfl) kx_L37
    obtain ⟨r6, hcr6, hM⟩ := ob_use hM
    refine lp_L37 r1.1 o_tokens FU 0 1 r2 r1.2 r6 _ _ _ hcr6 hP hD hS (lv_sub hl [0, 1, 2, 3] rfl) (fun H locs ls hP hD hS hl => ?_)
    refine lv_aload_n hx hb dX4_invocation_100 rfl (lv_at hl 1 rfl) ?_
    refine lv_bipush (v := 41) hx hb dX4_invocation_101 (by decide) ?_
    obtain ⟨r7, hcr7, hM⟩ := ob_use hM
    refine cl_V (As := [.int 41]) (rest := []) (wP cI ad r7 ++ wK cI ad o_tokens ++ wT cI ad r6.2) [] ⟨hx, hb, hml, hown, hts⟩ (c_Parser_takeClosing l D cI sd ad r6.1 o_tokens 41 r7 hcr7) (cwV2 hts q735 mvX4_takeClosing rfl rfl ⟨(Nat.le_of_ble_eq_true rfl), (Nat.le_of_ble_eq_true rfl)⟩) hK hE hA hP hD hS 0 (T := TX4) (N := 12) (ci := 4) rfl rfl [0, 1, 2, 3, 4] rfl (by decide) rfl rfl rfl rfl rfl rfl hl.1 (Nat.le_of_ble_eq_true rfl) dX4_invocation_103 ⟨Nat.zero_le _, Nat.zero_le _⟩ (fun H locs hP hD hS => ?_)
    cases hM
    exact rt_v hx hb hr hlk hP hD hS rfl dX4_invocation_106

set_option maxHeartbeats 4000000 in
set_option maxRecDepth 100000 in
theorem c_Parser_statement (l : Launch) (D : va_G) (cI : ClassId) (sd : Nat → Nat) (ad : Nat → Nat) (fr lo : Nat) (f_body : S_Parser → S_Tokens → S_Tree → Int32 → Option (S_Parser × S_Tree)) (H_body : ∀ (o_this : S_Parser) (o_tokens : S_Tokens) (o_tree : S_Tree) (a1 : Int32) (res : S_Parser × S_Tree), f_body o_this o_tokens o_tree a1 = some res → Ctr l D cI sd yX4_body (wsM yX4_body cX4_body 5 (Option.none : Option Jvm.ClassFile.FieldType)) { frames := fr, cells := 0, slots := 0, locals := lo } [.ref (ad 22), .int a1] (wP cI ad o_this ++ wK cI ad o_tokens ++ wT cI ad o_tree) (wP cI ad res.1 ++ wK cI ad o_tokens ++ wT cI ad res.2) none) (o_this : S_Parser) (o_tokens : S_Tokens) (o_tree : S_Tree) (a1 : Int32) (res : Int32 × S_Parser × S_Tree) (hM : f_Parser_statement f_body o_this o_tokens o_tree a1 = some res) : Ctr l D cI sd yX4_statement (wsM yX4_statement cX4_statement 4 (Option.some Jvm.ClassFile.FieldType.boolean)) { frames := max (fr + 2) 264, cells := 0, slots := 0, locals := max (lo + 48) 7001 } [.ref (ad 22), .int a1] (wP cI ad o_this ++ wK cI ad o_tokens ++ wT cI ad o_tree) (wP cI ad res.2.1 ++ wK cI ad o_tokens ++ wT cI ad res.2.2) (some (.int res.1)) := by
  refine Ctr.of (cc := cX4_statement) (maxL := 4) (own := RX4) (by decide +kernel) rfl rfl (Nat.le_of_ble_eq_true rfl) ?_
  intro p e s m below meth c A ls hx hb hr hml hown hts hlk hK hE hA hP hD hS hl
  have hl : lv_has ls 4 [(0, .ref (ad 22)), (1, .int a1)] := hl
  unfold f_Parser_statement at hM
  refine lv_aload_n hx hb dX4_statement_0 rfl (lv_at hl 0 rfl) ?_
  refine va_get (D := D) (ci := 4) (v := .int o_this.2.1) (C := RX4) (T := TX4) (N := 12) hx hb hts layX4 hown hK hP 0 rfl rfl 3 (by decide) (hts _ (inA q400)) (fun _ h9 => h9) rfl dX4_statement_1 ?_
  by_cases c1 : o_this.2.1 = 1
  · replace hM := if_t c1 hM
    refine lv_lookup (off := 68) (tgt := 72) hx hb dX4_statement_4 (by decide) (by exact sw_hit c1 (by decide)) (by decide) ?_
    refine lv_aload_n hx hb dX4_statement_72 rfl (lv_at hl 0 rfl) ?_
    refine va_get (D := D) (ci := 4) (v := .int o_this.2.2.1) (C := RX4) (T := TX4) (N := 12) hx hb hts layX4 hown hK hP 0 rfl rfl 4 (by decide) (hts _ (inA q401)) (fun _ h9 => h9) rfl dX4_statement_73 ?_
    refine lv_istore_n (lv' := [(2, .int o_this.2.2.1), (0, .ref (ad 22)), (1, .int a1)]) hx hb dX4_statement_76 rfl hl (by decide) rfl (fun ls hl => ?_)
    refine lv_aload_n hx hb dX4_statement_77 rfl (lv_at hl 1 rfl) ?_
    obtain ⟨r2, hcr2, hM⟩ := ob_use hM
    refine cl_V (As := []) (rest := []) (wP cI ad r2.2 ++ wK cI ad o_tokens ++ wT cI ad o_tree) (.int r2.1 :: []) ⟨hx, hb, hml, hown, hts⟩ (c_Parser_takeName l D cI sd ad o_this o_tokens r2 hcr2) (cwV2 hts q637 mvX4_takeName rfl rfl ⟨(mxN (Nat.le_of_ble_eq_true rfl)), (mxN (Nat.le_of_ble_eq_true rfl))⟩) hK hE hA hP hD hS 0 (T := TX4) (N := 12) (ci := 4) rfl rfl [0, 1, 2, 3, 4] rfl (by decide) rfl rfl rfl rfl rfl rfl hl.1 (Nat.le_of_ble_eq_true rfl) dX4_statement_78 ⟨Nat.zero_le _, Nat.zero_le _⟩ (fun H locs hP hD hS => ?_)
    refine lv_istore_n (lv' := [(3, .int r2.1), (2, .int o_this.2.2.1), (0, .ref (ad 22)), (1, .int a1)]) hx hb dX4_statement_81 rfl hl (by decide) rfl (fun ls hl => ?_)
    refine lv_aload_n hx hb dX4_statement_82 rfl (lv_at hl 2 rfl) ?_
    refine va_get (D := D) (ci := 4) (v := .int r2.2.2.1) (C := RX4) (T := TX4) (N := 12) hx hb hts layX4 hown hK hP 0 rfl rfl 3 (by decide) (hts _ (inA q400)) (fun _ h9 => h9) rfl dX4_statement_83 ?_
    refine lv_bipush (v := 40) hx hb dX4_statement_86 (by decide) ?_
    refine lv_icmp_ne (tgt := 101) hx hb dX4_statement_88 (by decide) (fun c3 => ?_) (fun c3 => ?_)
    · replace hM := if_f c3 hM
      refine lv_aload_n hx hb dX4_statement_101 rfl (lv_at hl 2 rfl) ?_
      refine lv_iload_n hx hb dX4_statement_102 rfl (lv_at hl 3 rfl) ?_
      refine lv_iload_n hx hb dX4_statement_103 rfl (lv_at hl 1 rfl) ?_
      refine lv_iload_n hx hb dX4_statement_104 rfl (lv_at hl 0 rfl) ?_
      obtain ⟨r4, hcr4, hM⟩ := ob_use hM
      refine cl_V (As := [.int a1, .int o_this.2.2.1, .int r2.1]) (rest := []) (wP cI ad r4.1 ++ wK cI ad o_tokens ++ wT cI ad r4.2) [] ⟨hx, hb, hml, hown, hts⟩ (c_Parser_assignment l D cI sd ad r2.2 o_tokens o_tree a1 o_this.2.2.1 r2.1 r4 hcr4) (cwV2 hts q766 mvX4_assignment rfl rfl ⟨(mxN (Nat.le_of_ble_eq_true rfl)), (mxN (Nat.le_of_ble_eq_true rfl))⟩) hK hE hA hP hD hS 0 (T := TX4) (N := 12) (ci := 4) rfl rfl [0, 1, 2, 3, 4, 5, 6, 7, 8, 9, 10, 11, 12] rfl (by decide) rfl rfl rfl rfl rfl rfl hl.1 (Nat.le_of_ble_eq_true rfl) dX4_statement_105 ⟨Nat.zero_le _, Nat.zero_le _⟩ (fun H locs hP hD hS => ?_)
      refine lv_goto (tgt := 192) hx hb dX4_statement_108 (by decide) ?_
      refine lv_aload_n hx hb dX4_statement_192 rfl (lv_at hl 2 rfl) ?_
      refine lv_bipush (v := 59) hx hb dX4_statement_193 (by decide) ?_
      obtain ⟨r5, hcr5, hM⟩ := ob_use hM
      refine cl_V (As := [.int 59]) (rest := []) (wP cI ad r5 ++ wK cI ad o_tokens ++ wT cI ad r4.2) [] ⟨hx, hb, hml, hown, hts⟩ (c_Parser_take l D cI sd ad r4.1 o_tokens 59 r5 hcr5) (cwV2 hts q614 mvX4_take rfl rfl ⟨(mxN (Nat.le_of_ble_eq_true rfl)), (mxN (Nat.le_of_ble_eq_true rfl))⟩) hK hE hA hP hD hS 0 (T := TX4) (N := 12) (ci := 4) rfl rfl [0, 1, 2, 3, 4] rfl (by decide) rfl rfl rfl rfl rfl rfl hl.1 (Nat.le_of_ble_eq_true rfl) dX4_statement_195 ⟨Nat.zero_le _, Nat.zero_le _⟩ (fun H locs hP hD hS => ?_)
      refine lv_iconst (v := 1) hx hb dX4_statement_198 (by decide) ?_
      cases hM
      exact rt_z hx hb hr hlk (by decide) hP hD hS rfl dX4_statement_199
    · replace hM := if_t c3 hM
      refine lv_aload_n hx hb dX4_statement_91 rfl (lv_at hl 2 rfl) ?_
      refine lv_iload_n hx hb dX4_statement_92 rfl (lv_at hl 3 rfl) ?_
      refine lv_iload_n hx hb dX4_statement_93 rfl (lv_at hl 1 rfl) ?_
      refine lv_iload_n hx hb dX4_statement_94 rfl (lv_at hl 0 rfl) ?_
      obtain ⟨r6, hcr6, hM⟩ := ob_use hM
      refine cl_V (As := [.int a1, .int o_this.2.2.1, .int r2.1]) (rest := []) (wP cI ad r6.1 ++ wK cI ad o_tokens ++ wT cI ad r6.2) [] ⟨hx, hb, hml, hown, hts⟩ (c_Parser_invocation l D cI sd ad r2.2 o_tokens o_tree a1 o_this.2.2.1 r2.1 r6 hcr6) (cwV2 hts q711 mvX4_invocation rfl rfl ⟨(mxN (Nat.le_of_ble_eq_true rfl)), (mxN (Nat.le_of_ble_eq_true rfl))⟩) hK hE hA hP hD hS 0 (T := TX4) (N := 12) (ci := 4) rfl rfl [0, 1, 2, 3, 4, 5, 6, 7, 8, 9, 10, 11, 12] rfl (by decide) rfl rfl rfl rfl rfl rfl hl.1 (Nat.le_of_ble_eq_true rfl) dX4_statement_95 ⟨Nat.zero_le _, Nat.zero_le _⟩ (fun H locs hP hD hS => ?_)
      refine lv_goto (tgt := 192) hx hb dX4_statement_98 (by decide) ?_
      refine lv_aload_n hx hb dX4_statement_192 rfl (lv_at hl 2 rfl) ?_
      refine lv_bipush (v := 59) hx hb dX4_statement_193 (by decide) ?_
      obtain ⟨r7, hcr7, hM⟩ := ob_use hM
      refine cl_V (As := [.int 59]) (rest := []) (wP cI ad r7 ++ wK cI ad o_tokens ++ wT cI ad r6.2) [] ⟨hx, hb, hml, hown, hts⟩ (c_Parser_take l D cI sd ad r6.1 o_tokens 59 r7 hcr7) (cwV2 hts q614 mvX4_take rfl rfl ⟨(mxN (Nat.le_of_ble_eq_true rfl)), (mxN (Nat.le_of_ble_eq_true rfl))⟩) hK hE hA hP hD hS 0 (T := TX4) (N := 12) (ci := 4) rfl rfl [0, 1, 2, 3, 4] rfl (by decide) rfl rfl rfl rfl rfl rfl hl.1 (Nat.le_of_ble_eq_true rfl) dX4_statement_195 ⟨Nat.zero_le _, Nat.zero_le _⟩ (fun H locs hP hD hS => ?_)
      refine lv_iconst (v := 1) hx hb dX4_statement_198 (by decide) ?_
      cases hM
      exact rt_z hx hb hr hlk (by decide) hP hD hS rfl dX4_statement_199
  replace hM := if_f c1 hM
  by_cases c8 : o_this.2.1 = 59
  · replace hM := if_t c8 hM
    refine lv_lookup (off := 183) (tgt := 187) hx hb dX4_statement_4 (by decide) (by rw [lv_osw c1 (by decide)]; exact sw_hit c8 (by decide)) (by decide) ?_
    refine lv_goto (tgt := 192) hx hb dX4_statement_187 (by decide) ?_
    refine lv_aload_n hx hb dX4_statement_192 rfl (lv_at hl 0 rfl) ?_
    refine lv_bipush (v := 59) hx hb dX4_statement_193 (by decide) ?_
    obtain ⟨r9, hcr9, hM⟩ := ob_use hM
    refine cl_V (As := [.int 59]) (rest := []) (wP cI ad r9 ++ wK cI ad o_tokens ++ wT cI ad o_tree) [] ⟨hx, hb, hml, hown, hts⟩ (c_Parser_take l D cI sd ad o_this o_tokens 59 r9 hcr9) (cwV2 hts q614 mvX4_take rfl rfl ⟨(mxN (Nat.le_of_ble_eq_true rfl)), (mxN (Nat.le_of_ble_eq_true rfl))⟩) hK hE hA hP hD hS 0 (T := TX4) (N := 12) (ci := 4) rfl rfl [0, 1, 2, 3, 4] rfl (by decide) rfl rfl rfl rfl rfl rfl hl.1 (Nat.le_of_ble_eq_true rfl) dX4_statement_195 ⟨Nat.zero_le _, Nat.zero_le _⟩ (fun H locs hP hD hS => ?_)
    refine lv_iconst (v := 1) hx hb dX4_statement_198 (by decide) ?_
    cases hM
    exact rt_z hx hb hr hlk (by decide) hP hD hS rfl dX4_statement_199
  replace hM := if_f c8 hM
  by_cases c10 : o_this.2.1 = 272
  · replace hM := if_t c10 hM
    refine lv_lookup (off := 107) (tgt := 111) hx hb dX4_statement_4 (by decide) (by rw [lv_osw c1 (by decide)]; rw [lv_osw c8 (by decide)]; exact sw_hit c10 (by decide)) (by decide) ?_
    refine lv_aload_n hx hb dX4_statement_111 rfl (lv_at hl 0 rfl) ?_
    refine lv_iload_n hx hb dX4_statement_112 rfl (lv_at hl 1 rfl) ?_
    obtain ⟨r11, hcr11, hM⟩ := ob_use hM
    refine cl_V (As := [.int a1]) (rest := []) (wP cI ad r11.1 ++ wK cI ad o_tokens ++ wT cI ad r11.2) [] ⟨hx, hb, hml, hown, hts⟩ (c_Parser_ifStatement l D cI sd ad fr lo f_body H_body o_this o_tokens o_tree a1 r11 hcr11) (cwV2 hts q770 mvX4_ifStatement rfl rfl ⟨mxF (by decide) (by decide), mxL (by decide) (by decide)⟩) hK hE hA hP hD hS 0 (T := TX4) (N := 12) (ci := 4) rfl rfl [0, 1, 2, 3, 4, 5, 6, 7, 8, 9, 10, 11, 12] rfl (by decide) rfl rfl rfl rfl rfl rfl hl.1 (Nat.le_of_ble_eq_true rfl) dX4_statement_113 ⟨Nat.zero_le _, Nat.zero_le _⟩ (fun H locs hP hD hS => ?_)
    refine lv_goto (tgt := 192) hx hb dX4_statement_116 (by decide) ?_
    refine lv_aload_n hx hb dX4_statement_192 rfl (lv_at hl 0 rfl) ?_
    refine lv_bipush (v := 59) hx hb dX4_statement_193 (by decide) ?_
    obtain ⟨r12, hcr12, hM⟩ := ob_use hM
    refine cl_V (As := [.int 59]) (rest := []) (wP cI ad r12 ++ wK cI ad o_tokens ++ wT cI ad r11.2) [] ⟨hx, hb, hml, hown, hts⟩ (c_Parser_take l D cI sd ad r11.1 o_tokens 59 r12 hcr12) (cwV2 hts q614 mvX4_take rfl rfl ⟨(mxN (Nat.le_of_ble_eq_true rfl)), (mxN (Nat.le_of_ble_eq_true rfl))⟩) hK hE hA hP hD hS 0 (T := TX4) (N := 12) (ci := 4) rfl rfl [0, 1, 2, 3, 4] rfl (by decide) rfl rfl rfl rfl rfl rfl hl.1 (Nat.le_of_ble_eq_true rfl) dX4_statement_195 ⟨Nat.zero_le _, Nat.zero_le _⟩ (fun H locs hP hD hS => ?_)
    refine lv_iconst (v := 1) hx hb dX4_statement_198 (by decide) ?_
    cases hM
    exact rt_z hx hb hr hlk (by decide) hP hD hS rfl dX4_statement_199
  replace hM := if_f c10 hM
  by_cases c13 : o_this.2.1 = 277
  · replace hM := if_t c13 hM
    refine lv_lookup (off := 115) (tgt := 119) hx hb dX4_statement_4 (by decide) (by rw [lv_osw c1 (by decide)]; rw [lv_osw c8 (by decide)]; rw [lv_osw c10 (by decide)]; exact sw_hit c13 (by decide)) (by decide) ?_
    refine lv_aload_n hx hb dX4_statement_119 rfl (lv_at hl 0 rfl) ?_
    refine lv_iload_n hx hb dX4_statement_120 rfl (lv_at hl 1 rfl) ?_
    obtain ⟨r14, hcr14, hM⟩ := ob_use hM
    refine cl_V (As := [.int a1]) (rest := []) (wP cI ad r14.1 ++ wK cI ad o_tokens ++ wT cI ad r14.2) [] ⟨hx, hb, hml, hown, hts⟩ (c_Parser_caseStatement l D cI sd ad fr lo f_body H_body o_this o_tokens o_tree a1 r14 hcr14) (cwV2 hts q774 mvX4_caseStatement rfl rfl ⟨mxF (by decide) (by decide), mxL (by decide) (by decide)⟩) hK hE hA hP hD hS 0 (T := TX4) (N := 12) (ci := 4) rfl rfl [0, 1, 2, 3, 4, 5, 6, 7, 8, 9, 10, 11, 12] rfl (by decide) rfl rfl rfl rfl rfl rfl hl.1 (Nat.le_of_ble_eq_true rfl) dX4_statement_121 ⟨Nat.zero_le _, Nat.zero_le _⟩ (fun H locs hP hD hS => ?_)
    refine lv_goto (tgt := 192) hx hb dX4_statement_124 (by decide) ?_
    refine lv_aload_n hx hb dX4_statement_192 rfl (lv_at hl 0 rfl) ?_
    refine lv_bipush (v := 59) hx hb dX4_statement_193 (by decide) ?_
    obtain ⟨r15, hcr15, hM⟩ := ob_use hM
    refine cl_V (As := [.int 59]) (rest := []) (wP cI ad r15 ++ wK cI ad o_tokens ++ wT cI ad r14.2) [] ⟨hx, hb, hml, hown, hts⟩ (c_Parser_take l D cI sd ad r14.1 o_tokens 59 r15 hcr15) (cwV2 hts q614 mvX4_take rfl rfl ⟨(mxN (Nat.le_of_ble_eq_true rfl)), (mxN (Nat.le_of_ble_eq_true rfl))⟩) hK hE hA hP hD hS 0 (T := TX4) (N := 12) (ci := 4) rfl rfl [0, 1, 2, 3, 4] rfl (by decide) rfl rfl rfl rfl rfl rfl hl.1 (Nat.le_of_ble_eq_true rfl) dX4_statement_195 ⟨Nat.zero_le _, Nat.zero_le _⟩ (fun H locs hP hD hS => ?_)
    refine lv_iconst (v := 1) hx hb dX4_statement_198 (by decide) ?_
    cases hM
    exact rt_z hx hb hr hlk (by decide) hP hD hS rfl dX4_statement_199
  replace hM := if_f c13 hM
  by_cases c16 : o_this.2.1 = 279
  · replace hM := if_t c16 hM
    refine lv_lookup (off := 123) (tgt := 127) hx hb dX4_statement_4 (by decide) (by rw [lv_osw c1 (by decide)]; rw [lv_osw c8 (by decide)]; rw [lv_osw c10 (by decide)]; rw [lv_osw c13 (by decide)]; exact sw_hit c16 (by decide)) (by decide) ?_
    refine lv_aload_n hx hb dX4_statement_127 rfl (lv_at hl 0 rfl) ?_
    refine lv_iload_n hx hb dX4_statement_128 rfl (lv_at hl 1 rfl) ?_
    obtain ⟨r17, hcr17, hM⟩ := ob_use hM
    refine cl_V (As := [.int a1]) (rest := []) (wP cI ad r17.1 ++ wK cI ad o_tokens ++ wT cI ad r17.2) [] ⟨hx, hb, hml, hown, hts⟩ (c_Parser_forStatement l D cI sd ad fr lo f_body H_body o_this o_tokens o_tree a1 r17 hcr17) (cwV2 hts q786 mvX4_forStatement rfl rfl ⟨mxF (by decide) (by decide), mxL (by decide) (by decide)⟩) hK hE hA hP hD hS 0 (T := TX4) (N := 12) (ci := 4) rfl rfl [0, 1, 2, 3, 4, 5, 6, 7, 8, 9, 10, 11, 12] rfl (by decide) rfl rfl rfl rfl rfl rfl hl.1 (Nat.le_of_ble_eq_true rfl) dX4_statement_129 ⟨Nat.zero_le _, Nat.zero_le _⟩ (fun H locs hP hD hS => ?_)
    refine lv_goto (tgt := 192) hx hb dX4_statement_132 (by decide) ?_
    refine lv_aload_n hx hb dX4_statement_192 rfl (lv_at hl 0 rfl) ?_
    refine lv_bipush (v := 59) hx hb dX4_statement_193 (by decide) ?_
    obtain ⟨r18, hcr18, hM⟩ := ob_use hM
    refine cl_V (As := [.int 59]) (rest := []) (wP cI ad r18 ++ wK cI ad o_tokens ++ wT cI ad r17.2) [] ⟨hx, hb, hml, hown, hts⟩ (c_Parser_take l D cI sd ad r17.1 o_tokens 59 r18 hcr18) (cwV2 hts q614 mvX4_take rfl rfl ⟨(mxN (Nat.le_of_ble_eq_true rfl)), (mxN (Nat.le_of_ble_eq_true rfl))⟩) hK hE hA hP hD hS 0 (T := TX4) (N := 12) (ci := 4) rfl rfl [0, 1, 2, 3, 4] rfl (by decide) rfl rfl rfl rfl rfl rfl hl.1 (Nat.le_of_ble_eq_true rfl) dX4_statement_195 ⟨Nat.zero_le _, Nat.zero_le _⟩ (fun H locs hP hD hS => ?_)
    refine lv_iconst (v := 1) hx hb dX4_statement_198 (by decide) ?_
    cases hM
    exact rt_z hx hb hr hlk (by decide) hP hD hS rfl dX4_statement_199
  replace hM := if_f c16 hM
  by_cases c19 : o_this.2.1 = 284
  · replace hM := if_t c19 hM
    refine lv_lookup (off := 131) (tgt := 135) hx hb dX4_statement_4 (by decide) (by rw [lv_osw c1 (by decide)]; rw [lv_osw c8 (by decide)]; rw [lv_osw c10 (by decide)]; rw [lv_osw c13 (by decide)]; rw [lv_osw c16 (by decide)]; exact sw_hit c19 (by decide)) (by decide) ?_
    refine lv_aload_n hx hb dX4_statement_135 rfl (lv_at hl 0 rfl) ?_
    refine va_get (D := D) (ci := 4) (v := .ref (ad 14)) (C := RX4) (T := TX4) (N := 12) hx hb hts layX4 hown hK hP 0 rfl rfl 1 (by decide) (hts _ (inA q398)) (fun _ h9 => h9) rfl dX4_statement_136 ?_
    refine lv_iload_n hx hb dX4_statement_139 rfl (lv_at hl 1 rfl) ?_
    refine lv_bipush (v := 20) hx hb dX4_statement_140 (by decide) ?_
    refine lv_aload_n hx hb dX4_statement_142 rfl (lv_at hl 0 rfl) ?_
    refine va_get (D := D) (ci := 4) (v := .int o_this.2.2.1) (C := RX4) (T := TX4) (N := 12) hx hb hts layX4 hown hK hP 0 rfl rfl 4 (by decide) (hts _ (inA q401)) (fun _ h9 => h9) rfl dX4_statement_143 ?_
    refine lv_iconst (v := 0) hx hb dX4_statement_146 (by decide) ?_
    obtain ⟨r20, hcr20, hM⟩ := ob_use hM
    refine cl_V (As := [.int a1, .int 20, .int o_this.2.2.1, .int 0]) (rest := []) (wP cI ad o_this ++ wK cI ad o_tokens ++ wT cI ad r20.2) (.int r20.1 :: []) ⟨hx, hb, hml, hown, hts⟩ (c_Tree_add l D cI sd ad o_tree a1 20 o_this.2.2.1 0 r20 hcr20) (cwV2 hts q622 mvX3_add rfl rfl ⟨(mxN (Nat.le_of_ble_eq_true rfl)), (mxN (Nat.le_of_ble_eq_true rfl))⟩) hK hE hA hP hD hS 5 (T := TX3) (N := 8) (ci := 3) rfl rfl [5, 6, 7, 8, 9, 10, 11, 12] rfl (by decide) rfl rfl rfl rfl rfl rfl hl.1 (Nat.le_of_ble_eq_true rfl) dX4_statement_147 ⟨Nat.zero_le _, Nat.zero_le _⟩ (fun H locs hP hD hS => ?_)
    refine lv_pop hx hb dX4_statement_150 rfl ?_
    refine lv_aload_n hx hb dX4_statement_151 rfl (lv_at hl 0 rfl) ?_
    refine lv_sipush (v := 284) hx hb dX4_statement_152 (by decide) ?_
    obtain ⟨r21, hcr21, hM⟩ := ob_use hM
    refine cl_V (As := [.int 284]) (rest := []) (wP cI ad r21 ++ wK cI ad o_tokens ++ wT cI ad r20.2) [] ⟨hx, hb, hml, hown, hts⟩ (c_Parser_take l D cI sd ad o_this o_tokens 284 r21 hcr21) (cwV2 hts q614 mvX4_take rfl rfl ⟨(mxN (Nat.le_of_ble_eq_true rfl)), (mxN (Nat.le_of_ble_eq_true rfl))⟩) hK hE hA hP hD hS 0 (T := TX4) (N := 12) (ci := 4) rfl rfl [0, 1, 2, 3, 4] rfl (by decide) rfl rfl rfl rfl rfl rfl hl.1 (Nat.le_of_ble_eq_true rfl) dX4_statement_155 ⟨Nat.zero_le _, Nat.zero_le _⟩ (fun H locs hP hD hS => ?_)
    refine lv_goto (tgt := 192) hx hb dX4_statement_158 (by decide) ?_
    refine lv_aload_n hx hb dX4_statement_192 rfl (lv_at hl 0 rfl) ?_
    refine lv_bipush (v := 59) hx hb dX4_statement_193 (by decide) ?_
    obtain ⟨r22, hcr22, hM⟩ := ob_use hM
    refine cl_V (As := [.int 59]) (rest := []) (wP cI ad r22 ++ wK cI ad o_tokens ++ wT cI ad r20.2) [] ⟨hx, hb, hml, hown, hts⟩ (c_Parser_take l D cI sd ad r21 o_tokens 59 r22 hcr22) (cwV2 hts q614 mvX4_take rfl rfl ⟨(mxN (Nat.le_of_ble_eq_true rfl)), (mxN (Nat.le_of_ble_eq_true rfl))⟩) hK hE hA hP hD hS 0 (T := TX4) (N := 12) (ci := 4) rfl rfl [0, 1, 2, 3, 4] rfl (by decide) rfl rfl rfl rfl rfl rfl hl.1 (Nat.le_of_ble_eq_true rfl) dX4_statement_195 ⟨Nat.zero_le _, Nat.zero_le _⟩ (fun H locs hP hD hS => ?_)
    refine lv_iconst (v := 1) hx hb dX4_statement_198 (by decide) ?_
    cases hM
    exact rt_z hx hb hr hlk (by decide) hP hD hS rfl dX4_statement_199
  replace hM := if_f c19 hM
  by_cases c23 : o_this.2.1 = 285
  · replace hM := if_t c23 hM
    refine lv_lookup (off := 157) (tgt := 161) hx hb dX4_statement_4 (by decide) (by rw [lv_osw c1 (by decide)]; rw [lv_osw c8 (by decide)]; rw [lv_osw c10 (by decide)]; rw [lv_osw c13 (by decide)]; rw [lv_osw c16 (by decide)]; rw [lv_osw c19 (by decide)]; exact sw_hit c23 (by decide)) (by decide) ?_
    refine lv_aload_n hx hb dX4_statement_161 rfl (lv_at hl 0 rfl) ?_
    refine va_get (D := D) (ci := 4) (v := .ref (ad 14)) (C := RX4) (T := TX4) (N := 12) hx hb hts layX4 hown hK hP 0 rfl rfl 1 (by decide) (hts _ (inA q398)) (fun _ h9 => h9) rfl dX4_statement_162 ?_
    refine lv_iload_n hx hb dX4_statement_165 rfl (lv_at hl 1 rfl) ?_
    refine lv_bipush (v := 21) hx hb dX4_statement_166 (by decide) ?_
    refine lv_aload_n hx hb dX4_statement_168 rfl (lv_at hl 0 rfl) ?_
    refine va_get (D := D) (ci := 4) (v := .int o_this.2.2.1) (C := RX4) (T := TX4) (N := 12) hx hb hts layX4 hown hK hP 0 rfl rfl 4 (by decide) (hts _ (inA q401)) (fun _ h9 => h9) rfl dX4_statement_169 ?_
    refine lv_iconst (v := 0) hx hb dX4_statement_172 (by decide) ?_
    obtain ⟨r24, hcr24, hM⟩ := ob_use hM
    refine cl_V (As := [.int a1, .int 21, .int o_this.2.2.1, .int 0]) (rest := []) (wP cI ad o_this ++ wK cI ad o_tokens ++ wT cI ad r24.2) (.int r24.1 :: []) ⟨hx, hb, hml, hown, hts⟩ (c_Tree_add l D cI sd ad o_tree a1 21 o_this.2.2.1 0 r24 hcr24) (cwV2 hts q622 mvX3_add rfl rfl ⟨(mxN (Nat.le_of_ble_eq_true rfl)), (mxN (Nat.le_of_ble_eq_true rfl))⟩) hK hE hA hP hD hS 5 (T := TX3) (N := 8) (ci := 3) rfl rfl [5, 6, 7, 8, 9, 10, 11, 12] rfl (by decide) rfl rfl rfl rfl rfl rfl hl.1 (Nat.le_of_ble_eq_true rfl) dX4_statement_173 ⟨Nat.zero_le _, Nat.zero_le _⟩ (fun H locs hP hD hS => ?_)
    refine lv_pop hx hb dX4_statement_176 rfl ?_
    refine lv_aload_n hx hb dX4_statement_177 rfl (lv_at hl 0 rfl) ?_
    refine lv_sipush (v := 285) hx hb dX4_statement_178 (by decide) ?_
    obtain ⟨r25, hcr25, hM⟩ := ob_use hM
    refine cl_V (As := [.int 285]) (rest := []) (wP cI ad r25 ++ wK cI ad o_tokens ++ wT cI ad r24.2) [] ⟨hx, hb, hml, hown, hts⟩ (c_Parser_take l D cI sd ad o_this o_tokens 285 r25 hcr25) (cwV2 hts q614 mvX4_take rfl rfl ⟨(mxN (Nat.le_of_ble_eq_true rfl)), (mxN (Nat.le_of_ble_eq_true rfl))⟩) hK hE hA hP hD hS 0 (T := TX4) (N := 12) (ci := 4) rfl rfl [0, 1, 2, 3, 4] rfl (by decide) rfl rfl rfl rfl rfl rfl hl.1 (Nat.le_of_ble_eq_true rfl) dX4_statement_181 ⟨Nat.zero_le _, Nat.zero_le _⟩ (fun H locs hP hD hS => ?_)
    refine lv_goto (tgt := 192) hx hb dX4_statement_184 (by decide) ?_
    refine lv_aload_n hx hb dX4_statement_192 rfl (lv_at hl 0 rfl) ?_
    refine lv_bipush (v := 59) hx hb dX4_statement_193 (by decide) ?_
    obtain ⟨r26, hcr26, hM⟩ := ob_use hM
    refine cl_V (As := [.int 59]) (rest := []) (wP cI ad r26 ++ wK cI ad o_tokens ++ wT cI ad r24.2) [] ⟨hx, hb, hml, hown, hts⟩ (c_Parser_take l D cI sd ad r25 o_tokens 59 r26 hcr26) (cwV2 hts q614 mvX4_take rfl rfl ⟨(mxN (Nat.le_of_ble_eq_true rfl)), (mxN (Nat.le_of_ble_eq_true rfl))⟩) hK hE hA hP hD hS 0 (T := TX4) (N := 12) (ci := 4) rfl rfl [0, 1, 2, 3, 4] rfl (by decide) rfl rfl rfl rfl rfl rfl hl.1 (Nat.le_of_ble_eq_true rfl) dX4_statement_195 ⟨Nat.zero_le _, Nat.zero_le _⟩ (fun H locs hP hD hS => ?_)
    refine lv_iconst (v := 1) hx hb dX4_statement_198 (by decide) ?_
    cases hM
    exact rt_z hx hb hr hlk (by decide) hP hD hS rfl dX4_statement_199
  replace hM := if_f c23 hM
  refine lv_lookup (off := 186) (tgt := 190) hx hb dX4_statement_4 (by decide) (by rw [lv_osw c1 (by decide)]; rw [lv_osw c8 (by decide)]; rw [lv_osw c10 (by decide)]; rw [lv_osw c13 (by decide)]; rw [lv_osw c16 (by decide)]; rw [lv_osw c19 (by decide)]; rw [lv_osw c23 (by decide)]; rfl) (by decide) ?_
  refine lv_iconst (v := 0) hx hb dX4_statement_190 (by decide) ?_
  cases hM
  exact rt_z hx hb hr hlk (by decide) hP hD hS rfl dX4_statement_191

set_option maxHeartbeats 4000000 in
set_option maxRecDepth 100000 in
theorem c_Parser_body_o (l : Launch) (D : va_G) (cI : ClassId) (sd : Nat → Nat) (ad : Nat → Nat) (fr lo : Nat) (f_body : S_Parser → S_Tokens → S_Tree → Int32 → Option (S_Parser × S_Tree)) (H_body : ∀ (o_this : S_Parser) (o_tokens : S_Tokens) (o_tree : S_Tree) (a1 : Int32) (res : S_Parser × S_Tree), f_body o_this o_tokens o_tree a1 = some res → Ctr l D cI sd yX4_body (wsM yX4_body cX4_body 5 (Option.none : Option Jvm.ClassFile.FieldType)) { frames := fr, cells := 0, slots := 0, locals := lo } [.ref (ad 22), .int a1] (wP cI ad o_this ++ wK cI ad o_tokens ++ wT cI ad o_tree) (wP cI ad res.1 ++ wK cI ad o_tokens ++ wT cI ad res.2) none) (o_this : S_Parser) (o_tokens : S_Tokens) (o_tree : S_Tree) (a1 : Int32) (res : S_Parser × S_Tree) (hM : f_Parser_body_o f_body o_this o_tokens o_tree a1 = some res) : Ctr l D cI sd yX4_body (wsM yX4_body cX4_body 5 (Option.none : Option Jvm.ClassFile.FieldType)) { frames := max (fr + 3) 265, cells := 0, slots := 0, locals := max (lo + 71) 7024 } [.ref (ad 22), .int a1] (wP cI ad o_this ++ wK cI ad o_tokens ++ wT cI ad o_tree) (wP cI ad res.1 ++ wK cI ad o_tokens ++ wT cI ad res.2) none := by
  refine Ctr.of (cc := cX4_body) (maxL := 5) (own := RX4) (by decide +kernel) rfl rfl (Nat.le_of_ble_eq_true rfl) ?_
  intro p e s m below meth c A ls hx hb hr hml hown hts hlk hK hE hA hP hD hS hl
  have hl : lv_has ls 5 [(0, .ref (ad 22)), (1, .int a1)] := hl
  unfold f_Parser_body_o at hM
  refine lv_aload_n hx hb dX4_body_0 rfl (lv_at hl 0 rfl) ?_
  refine va_get (D := D) (ci := 4) (v := .ref (ad 14)) (C := RX4) (T := TX4) (N := 12) hx hb hts layX4 hown hK hP 0 rfl rfl 1 (by decide) (hts _ (inA q398)) (fun _ h9 => h9) rfl dX4_body_1 ?_
  refine lv_iload_n hx hb dX4_body_4 rfl (lv_at hl 1 rfl) ?_
  refine lv_bipush (v := 11) hx hb dX4_body_5 (by decide) ?_
  refine lv_aload_n hx hb dX4_body_7 rfl (lv_at hl 0 rfl) ?_
  refine va_get (D := D) (ci := 4) (v := .int o_this.2.2.2.2.1) (C := RX4) (T := TX4) (N := 12) hx hb hts layX4 hown hK hP 0 rfl rfl 6 (by decide) (hts _ (inA q403)) (fun _ h9 => h9) rfl dX4_body_8 ?_
  refine lv_iconst (v := 0) hx hb dX4_body_11 (by decide) ?_
  obtain ⟨r1, hcr1, hM⟩ := ob_use hM
  refine cl_V (As := [.int a1, .int 11, .int o_this.2.2.2.2.1, .int 0]) (rest := []) (wP cI ad o_this ++ wK cI ad o_tokens ++ wT cI ad r1.2) (.int r1.1 :: []) ⟨hx, hb, hml, hown, hts⟩ (c_Tree_add l D cI sd ad o_tree a1 11 o_this.2.2.2.2.1 0 r1 hcr1) (cwV2 hts q622 mvX3_add rfl rfl ⟨(mxN (Nat.le_of_ble_eq_true rfl)), (mxN (Nat.le_of_ble_eq_true rfl))⟩) hK hE hA hP hD hS 5 (T := TX3) (N := 8) (ci := 3) rfl rfl [5, 6, 7, 8, 9, 10, 11, 12] rfl (by decide) rfl rfl rfl rfl rfl rfl hl.1 (Nat.le_of_ble_eq_true rfl) dX4_body_12 ⟨Nat.zero_le _, Nat.zero_le _⟩ (fun H locs hP hD hS => ?_)
  refine lv_istore_n (lv' := [(2, .int r1.1), (0, .ref (ad 22)), (1, .int a1)]) hx hb dX4_body_15 rfl hl (by decide) rfl (fun ls hl => ?_)
  refine lv_iconst (v := 1) hx hb dX4_body_16 (by decide) ?_
  refine lv_istore_n (lv' := [(3, .int 1), (2, .int r1.1), (0, .ref (ad 22)), (1, .int a1)]) hx hb dX4_body_17 rfl hl (by decide) rfl (fun ls hl => ?_)
  refine lv_iconst (v := 0) hx hb dX4_body_18 (by decide) ?_
  refine lv_istore (lv' := [(4, .int 0), (3, .int 1), (2, .int r1.1), (0, .ref (ad 22)), (1, .int a1)]) hx hb dX4_body_19 hl (by decide) rfl (fun ls hl => ?_)
  have lp_L21 : ∀ (w2_L21 : Int32) (o_tokens_L21 : S_Tokens) (n : Nat) (v4_L21 : Int32) (v3_L21 : Int32) (o_this_L21 : S_Parser) (o_tree_L21 : S_Tree) (out_L21 : S_Parser × S_Tree) (H : Heap) (locs : List Loc) (ls : Array Slot), f_Parser_body_o_L21 f_body w2_L21 o_tokens_L21 n v4_L21 v3_L21 o_this_L21 o_tree_L21 = some out_L21 → va_P D vwCl (wP cI ad o_this_L21 ++ wK cI ad o_tokens_L21 ++ wT cI ad o_tree_L21) H → va_D A (wP cI ad o_this_L21 ++ wK cI ad o_tokens_L21 ++ wT cI ad o_tree_L21) → va_S A s.heap H locs → lv_has ls 5 [(4, .int v4_L21), (3, .int v3_L21), (2, .int w2_L21), (0, .ref (ad 22))] → (∀ (H : Heap) (locs : List Loc) (ls : Array Slot), va_P D vwCl (wP cI ad out_L21.1 ++ wK cI ad o_tokens_L21 ++ wT cI ad out_L21.2) H → va_D A (wP cI ad out_L21.1 ++ wK cI ad o_tokens_L21 ++ wT cI ad out_L21.2) → va_S A s.heap H locs → lv_has ls 5 [(2, .int w2_L21), (0, .ref (ad 22))] → W p l e { frames := max (fr + 3) 265, cells := 0, slots := 0, locals := max (lo + 71) 7024 } s m [.ref (ad 22), .int a1].toArray below meth c H locs 0 0 (MQ below (CQ D A (wP cI ad res.1 ++ wK cI ad o_tokens ++ wT cI ad res.2) none) [.ref (ad 22), .int a1].toArray s 0 0 A) (F0 m 45 ls [])) → W p l e { frames := max (fr + 3) 265, cells := 0, slots := 0, locals := max (lo + 71) 7024 } s m [.ref (ad 22), .int a1].toArray below meth c H locs 0 0 (MQ below (CQ D A (wP cI ad res.1 ++ wK cI ad o_tokens ++ wT cI ad res.2) none) [.ref (ad 22), .int a1].toArray s 0 0 A) (F0 m 21 ls []) := by
    intro w2_L21 o_tokens_L21 n
    induction n with
    | zero => intro v4_L21 v3_L21 o_this_L21 o_tree_L21 out_L21 H locs ls hM; exact absurd (show none = some _ from hM) (by simp)
    | succ n ih_L21 =>
      intro v4_L21 v3_L21 o_this_L21 o_tree_L21 out_L21 H locs ls hM hP hD hS hl kx_L21
      rw [f_Parser_body_o_L21] at hM
      refine lv_iload_n hx hb dX4_body_21 rfl (lv_at hl 1 rfl) ?_
      refine lv_if_eq (tgt := 45) hx hb dX4_body_22 (by decide) (fun c1311 => ?_) (fun c1311 => ?_)
      · replace hM := if_t c1311 hM
        cases hM
        exact kx_L21 _ _ _ hP hD hS (lv_sub hl [2, 3] rfl)
      · replace hM := if_f c1311 hM
        refine lv_iload hx hb dX4_body_25 (lv_at hl 0 rfl) ?_
        refine lv_sipush (v := 8192) hx hb dX4_body_27 (by decide) ?_
        refine lv_icmp_ge (tgt := 45) hx hb dX4_body_30 (by decide) (fun c1312 => ?_) (fun c1312 => ?_)
        · replace hM := if_t c1312 hM
          cases hM
          exact kx_L21 _ _ _ hP hD hS (lv_sub hl [2, 3] rfl)
        · replace hM := if_f c1312 hM
          refine lv_aload_n hx hb dX4_body_33 rfl (lv_at hl 3 rfl) ?_
          refine lv_iload_n hx hb dX4_body_34 rfl (lv_at hl 2 rfl) ?_
          obtain ⟨r1313, hcr1313, hM⟩ := ob_use hM
          refine cl_V (As := [.int w2_L21]) (rest := []) (wP cI ad r1313.2.1 ++ wK cI ad o_tokens_L21 ++ wT cI ad r1313.2.2) (.int r1313.1 :: []) ⟨hx, hb, hml, hown, hts⟩ (c_Parser_statement l D cI sd ad fr lo f_body H_body o_this_L21 o_tokens_L21 o_tree_L21 w2_L21 r1313 hcr1313) (cwV2 hts q707 mvX4_statement rfl rfl ⟨mxF (by decide) (by decide), mxL (by decide) (by decide)⟩) hK hE hA hP hD hS 0 (T := TX4) (N := 12) (ci := 4) rfl rfl [0, 1, 2, 3, 4, 5, 6, 7, 8, 9, 10, 11, 12] rfl (by decide) rfl rfl rfl rfl rfl rfl hl.1 (Nat.le_of_ble_eq_true rfl) dX4_body_35 ⟨Nat.zero_le _, Nat.zero_le _⟩ (fun H locs hP hD hS => ?_)
          refine lv_istore_n (lv' := [(3, .int r1313.1), (4, .int v4_L21), (2, .int w2_L21), (0, .ref (ad 22))]) hx hb dX4_body_38 rfl hl (by decide) rfl (fun ls hl => ?_)
          obtain ⟨x1314, ex1314⟩ : ∃ y : Int32, y = v4_L21 + 1 := ⟨_, rfl⟩
          replace hM := nm_use ex1314 hM
          refine lv_iinc (v := x1314) (lv' := [(4, .int x1314), (3, .int r1313.1), (2, .int w2_L21), (0, .ref (ad 22))]) hx hb dX4_body_39 hl (k := 1) rfl (by rw [ex1314]; rfl) (by decide) rfl (fun ls hl => ?_)
          refine lv_goto (tgt := 21) hx hb dX4_body_42 (by decide) ?_
          exact ih_L21 x1314 r1313.1 r1313.2.1 r1313.2.2 out_L21 _ _ _ hM hP hD hS (lv_sub hl [0, 1, 2, 3] rfl) kx_L21
  obtain ⟨r2, hcr2, hM⟩ := ob_use hM
  refine lp_L21 r1.1 o_tokens FU 0 1 o_this r1.2 r2 _ _ _ hcr2 hP hD hS (lv_sub hl [0, 1, 2, 3] rfl) (fun H locs ls hP hD hS hl => ?_)
  cases hM
  exact rt_v hx hb hr hlk hP hD hS rfl dX4_body_45

def frB : Nat → Nat
  | 0 => 0
  | d + 1 => max (frB d + 3) 265
def loB : Nat → Nat
  | 0 => 0
  | d + 1 => max (loB d + 71) 7024
set_option maxHeartbeats 4000000 in
set_option maxRecDepth 100000 in
theorem c_GB (l : Launch) (D : va_G) (cI : ClassId) (sd ad : Nat → Nat) : ∀ d : Nat, (∀ (o_this : S_Parser) (o_tokens : S_Tokens) (o_tree : S_Tree) (a1 : Int32) (res : S_Parser × S_Tree), (GB d) o_this o_tokens o_tree a1 = some res → Ctr l D cI sd yX4_body (wsM yX4_body cX4_body 5 (Option.none : Option Jvm.ClassFile.FieldType)) { frames := frB d, cells := 0, slots := 0, locals := loB d } [.ref (ad 22), .int a1] (wP cI ad o_this ++ wK cI ad o_tokens ++ wT cI ad o_tree) (wP cI ad res.1 ++ wK cI ad o_tokens ++ wT cI ad res.2) none) := by
  intro d
  induction d with
  | zero => exact fun x1 x2 x3 a0 res h => absurd (show none = some res from h) (by simp)
  | succ d ih => exact fun x1 x2 x3 a0 res h => c_Parser_body_o l D cI sd ad (frB d) (loB d) (GB d) ih x1 x2 x3 a0 res h
theorem frB_e : frB DB = 460 := by decide +kernel
theorem loB_e : loB DB = 11639 := by decide +kernel
set_option maxHeartbeats 4000000 in
theorem c_Parser_body (l : Launch) (D : va_G) (cI : ClassId) (sd ad : Nat → Nat) : ∀ (o_this : S_Parser) (o_tokens : S_Tokens) (o_tree : S_Tree) (a1 : Int32) (res : S_Parser × S_Tree), f_Parser_body o_this o_tokens o_tree a1 = some res → Ctr l D cI sd yX4_body (wsM yX4_body cX4_body 5 (Option.none : Option Jvm.ClassFile.FieldType)) { frames := 460, cells := 0, slots := 0, locals := 11639 } [.ref (ad 22), .int a1] (wP cI ad o_this ++ wK cI ad o_tokens ++ wT cI ad o_tree) (wP cI ad res.1 ++ wK cI ad o_tokens ++ wT cI ad res.2) none := by
  have h := c_GB l D cI sd ad DB
  rw [frB_e, loB_e] at h
  exact h

set_option maxHeartbeats 4000000 in
set_option maxRecDepth 100000 in
theorem c_Parser_endOfBlock (l : Launch) (D : va_G) (cI : ClassId) (sd : Nat → Nat) (ad : Nat → Nat) (a1 : Int32) (res : Int32) (hM : f_Parser_endOfBlock a1 = some res) : Ctr l D cI sd yX4_endOfBlock (wsM yX4_endOfBlock cX4_endOfBlock 1 (Option.some Jvm.ClassFile.FieldType.int)) { frames := 0, cells := 0, slots := 0, locals := 0 } [.int a1] (([] : va_W)) (([] : va_W)) (some (.int res)) := by
  refine Ctr.of (cc := cX4_endOfBlock) (maxL := 1) (own := RX4) (by decide +kernel) rfl rfl (Nat.le_of_ble_eq_true rfl) ?_
  intro p e s m below meth c A ls hx hb hr hml hown hts hlk hK hE hA hP hD hS hl
  have hl : lv_has ls 1 [(0, .int a1)] := hl
  unfold f_Parser_endOfBlock at hM
  refine lv_iload_n hx hb dX4_endOfBlock_0 rfl (lv_at hl 0 rfl) ?_
  by_cases c1 : a1 = 256
  · replace hM := if_t c1 hM
    refine lv_lookup (off := 27) (tgt := 28) hx hb dX4_endOfBlock_1 (by decide) (by exact sw_hit c1 (by decide)) (by decide) ?_
    refine lv_sipush (v := 257) hx hb dX4_endOfBlock_28 (by decide) ?_
    cases hM
    exact rt_i hx hb hr hlk hP hD hS rfl dX4_endOfBlock_31
  replace hM := if_f c1 hM
  by_cases c2 : a1 = 258
  · replace hM := if_t c2 hM
    refine lv_lookup (off := 31) (tgt := 32) hx hb dX4_endOfBlock_1 (by decide) (by rw [lv_osw c1 (by decide)]; exact sw_hit c2 (by decide)) (by decide) ?_
    refine lv_sipush (v := 259) hx hb dX4_endOfBlock_32 (by decide) ?_
    cases hM
    exact rt_i hx hb hr hlk hP hD hS rfl dX4_endOfBlock_35
  replace hM := if_f c2 hM
  refine lv_lookup (off := 35) (tgt := 36) hx hb dX4_endOfBlock_1 (by decide) (by rw [lv_osw c1 (by decide)]; rw [lv_osw c2 (by decide)]; rfl) (by decide) ?_
  refine lv_sipush (v := 261) hx hb dX4_endOfBlock_36 (by decide) ?_
  cases hM
  exact rt_i hx hb hr hlk hP hD hS rfl dX4_endOfBlock_39

set_option maxHeartbeats 4000000 in
set_option maxRecDepth 100000 in
theorem c_Parser_coilValue (l : Launch) (D : va_G) (cI : ClassId) (sd : Nat → Nat) (ad : Nat → Nat) (a1 : Int32) (res : Int32) (hM : f_Parser_coilValue a1 = some res) : Ctr l D cI sd yX4_coilValue (wsM yX4_coilValue cX4_coilValue 1 (Option.some Jvm.ClassFile.FieldType.int)) { frames := 0, cells := 0, slots := 0, locals := 0 } [.int a1] (([] : va_W)) (([] : va_W)) (some (.int res)) := by
  refine Ctr.of (cc := cX4_coilValue) (maxL := 1) (own := RX4) (by decide +kernel) rfl rfl (Nat.le_of_ble_eq_true rfl) ?_
  intro p e s m below meth c A ls hx hb hr hml hown hts hlk hK hE hA hP hD hS hl
  have hl : lv_has ls 1 [(0, .int a1)] := hl
  unfold f_Parser_coilValue at hM
  refine lv_iload_n hx hb dX4_coilValue_0 rfl (lv_at hl 0 rfl) ?_
  by_cases c1 : a1 = 43
  · replace hM := if_t c1 hM
    refine lv_tableIn (tgt := 38) hx hb dX4_coilValue_1 (by rw [c1]; decide) (by rw [c1]; decide) (by rw [c1]; rfl) (by decide) ?_
    refine lv_iconst (v := 2) hx hb dX4_coilValue_38 (by decide) ?_
    cases hM
    exact rt_i hx hb hr hlk hP hD hS rfl dX4_coilValue_39
  replace hM := if_f c1 hM
  by_cases c2 : a1 = 44
  · replace hM := if_t c2 hM
    refine lv_tableIn (tgt := 42) hx hb dX4_coilValue_1 (by rw [c2]; decide) (by rw [c2]; decide) (by rw [c2]; rfl) (by decide) ?_
    refine lv_iconst (v := 0) hx hb dX4_coilValue_42 (by decide) ?_
    cases hM
    exact rt_i hx hb hr hlk hP hD hS rfl dX4_coilValue_43
  replace hM := if_f c2 hM
  by_cases c3 : a1 = 45
  · replace hM := if_t c3 hM
    refine lv_tableIn (tgt := 40) hx hb dX4_coilValue_1 (by rw [c3]; decide) (by rw [c3]; decide) (by rw [c3]; rfl) (by decide) ?_
    refine lv_iconst (v := 3) hx hb dX4_coilValue_40 (by decide) ?_
    cases hM
    exact rt_i hx hb hr hlk hP hD hS rfl dX4_coilValue_41
  replace hM := if_f c3 hM
  by_cases c4 : a1 = 46
  · replace hM := if_t c4 hM
    refine lv_tableIn (tgt := 42) hx hb dX4_coilValue_1 (by rw [c4]; decide) (by rw [c4]; decide) (by rw [c4]; rfl) (by decide) ?_
    refine lv_iconst (v := 0) hx hb dX4_coilValue_42 (by decide) ?_
    cases hM
    exact rt_i hx hb hr hlk hP hD hS rfl dX4_coilValue_43
  replace hM := if_f c4 hM
  by_cases c5 : a1 = 47
  · replace hM := if_t c5 hM
    refine lv_tableIn (tgt := 36) hx hb dX4_coilValue_1 (by rw [c5]; decide) (by rw [c5]; decide) (by rw [c5]; rfl) (by decide) ?_
    refine lv_iconst (v := 1) hx hb dX4_coilValue_36 (by decide) ?_
    cases hM
    exact rt_i hx hb hr hlk hP hD hS rfl dX4_coilValue_37
  replace hM := if_f c5 hM
  refine lv_tableOut (tgt := 42) hx hb dX4_coilValue_1 (by have := lv_neT c1 (show (43 : Int32).toInt = 43 by decide); have := lv_neT c2 (show (44 : Int32).toInt = 44 by decide); have := lv_neT c3 (show (45 : Int32).toInt = 45 by decide); have := lv_neT c4 (show (46 : Int32).toInt = 46 by decide); have := lv_neT c5 (show (47 : Int32).toInt = 47 by decide); omega) (by decide) ?_
  refine lv_iconst (v := 0) hx hb dX4_coilValue_42 (by decide) ?_
  cases hM
  exact rt_i hx hb hr hlk hP hD hS rfl dX4_coilValue_43

set_option maxHeartbeats 4000000 in
set_option maxRecDepth 100000 in
theorem c_Parser_coil (l : Launch) (D : va_G) (cI : ClassId) (sd : Nat → Nat) (ad : Nat → Nat) (o_this : S_Parser) (o_tokens : S_Tokens) (o_tree : S_Tree) (a1 : Int32) (res : S_Parser × S_Tree) (hM : f_Parser_coil o_this o_tokens o_tree a1 = some res) : Ctr l D cI sd yX4_coil (wsM yX4_coil cX4_coil 5 (Option.none : Option Jvm.ClassFile.FieldType)) { frames := 2, cells := 0, slots := 0, locals := 46 } [.ref (ad 22), .int a1] (wP cI ad o_this ++ wK cI ad o_tokens ++ wT cI ad o_tree) (wP cI ad res.1 ++ wK cI ad o_tokens ++ wT cI ad res.2) none := by
  refine Ctr.of (cc := cX4_coil) (maxL := 5) (own := RX4) (by decide +kernel) rfl rfl (Nat.le_of_ble_eq_true rfl) ?_
  intro p e s m below meth c A ls hx hb hr hml hown hts hlk hK hE hA hP hD hS hl
  have hl : lv_has ls 5 [(0, .ref (ad 22)), (1, .int a1)] := hl
  unfold f_Parser_coil at hM
  refine lv_aload_n hx hb dX4_coil_0 rfl (lv_at hl 0 rfl) ?_
  refine va_get (D := D) (ci := 4) (v := .int o_this.2.2.1) (C := RX4) (T := TX4) (N := 12) hx hb hts layX4 hown hK hP 0 rfl rfl 4 (by decide) (hts _ (inA q401)) (fun _ h9 => h9) rfl dX4_coil_1 ?_
  refine lv_istore_n (lv' := [(2, .int o_this.2.2.1), (0, .ref (ad 22)), (1, .int a1)]) hx hb dX4_coil_4 rfl hl (by decide) rfl (fun ls hl => ?_)
  refine lv_aload_n hx hb dX4_coil_5 rfl (lv_at hl 1 rfl) ?_
  refine lv_bipush (v := 40) hx hb dX4_coil_6 (by decide) ?_
  obtain ⟨r1, hcr1, hM⟩ := ob_use hM
  refine cl_V (As := [.int 40]) (rest := []) (wP cI ad r1 ++ wK cI ad o_tokens ++ wT cI ad o_tree) [] ⟨hx, hb, hml, hown, hts⟩ (c_Parser_take l D cI sd ad o_this o_tokens 40 r1 hcr1) (cwV2 hts q614 mvX4_take rfl rfl ⟨(Nat.le_of_ble_eq_true rfl), (Nat.le_of_ble_eq_true rfl)⟩) hK hE hA hP hD hS 0 (T := TX4) (N := 12) (ci := 4) rfl rfl [0, 1, 2, 3, 4] rfl (by decide) rfl rfl rfl rfl rfl rfl hl.1 (Nat.le_of_ble_eq_true rfl) dX4_coil_8 ⟨Nat.zero_le _, Nat.zero_le _⟩ (fun H locs hP hD hS => ?_)
  refine lv_aload_n hx hb dX4_coil_11 rfl (lv_at hl 1 rfl) ?_
  refine va_get (D := D) (ci := 4) (v := .int r1.2.1) (C := RX4) (T := TX4) (N := 12) hx hb hts layX4 hown hK hP 0 rfl rfl 3 (by decide) (hts _ (inA q400)) (fun _ h9 => h9) rfl dX4_coil_12 ?_
  obtain ⟨r2, hcr2, hM⟩ := ob_use hM
  refine cl_S (As := [.int r1.2.1]) (rest := []) (wP cI ad r1 ++ wK cI ad o_tokens ++ wT cI ad o_tree) (.int r2 :: []) ⟨hx, hb, hml, hown, hts⟩ (c_Parser_coilValue l D cI sd ad r1.2.1 r2 hcr2) (cwS2 hts q689 mvX4_coilValue rfl rfl ⟨(Nat.le_of_ble_eq_true rfl), (Nat.le_of_ble_eq_true rfl)⟩) hK hE hA hP hD hS [] rfl (by decide) rfl rfl rfl rfl rfl rfl hl.1 (Nat.le_of_ble_eq_true rfl) dX4_coil_15 ⟨Nat.zero_le _, Nat.zero_le _⟩ (fun H locs hP hD hS => ?_)
  refine lv_istore_n (lv' := [(3, .int r2), (2, .int o_this.2.2.1), (0, .ref (ad 22)), (1, .int a1)]) hx hb dX4_coil_18 rfl hl (by decide) rfl (fun ls hl => ?_)
  refine lv_aload_n hx hb dX4_coil_19 rfl (lv_at hl 2 rfl) ?_
  refine va_get (D := D) (ci := 4) (v := .ref (ad 14)) (C := RX4) (T := TX4) (N := 12) hx hb hts layX4 hown hK hP 0 rfl rfl 1 (by decide) (hts _ (inA q398)) (fun _ h9 => h9) rfl dX4_coil_20 ?_
  refine lv_iload_n hx hb dX4_coil_23 rfl (lv_at hl 3 rfl) ?_
  refine lv_bipush (v := 28) hx hb dX4_coil_24 (by decide) ?_
  refine lv_iload_n hx hb dX4_coil_26 rfl (lv_at hl 1 rfl) ?_
  refine lv_iload_n hx hb dX4_coil_27 rfl (lv_at hl 0 rfl) ?_
  obtain ⟨r3, hcr3, hM⟩ := ob_use hM
  refine cl_V (As := [.int a1, .int 28, .int o_this.2.2.1, .int r2]) (rest := []) (wP cI ad r1 ++ wK cI ad o_tokens ++ wT cI ad r3.2) (.int r3.1 :: []) ⟨hx, hb, hml, hown, hts⟩ (c_Tree_add l D cI sd ad o_tree a1 28 o_this.2.2.1 r2 r3 hcr3) (cwV2 hts q622 mvX3_add rfl rfl ⟨(Nat.le_of_ble_eq_true rfl), (Nat.le_of_ble_eq_true rfl)⟩) hK hE hA hP hD hS 5 (T := TX3) (N := 8) (ci := 3) rfl rfl [5, 6, 7, 8, 9, 10, 11, 12] rfl (by decide) rfl rfl rfl rfl rfl rfl hl.1 (Nat.le_of_ble_eq_true rfl) dX4_coil_28 ⟨Nat.zero_le _, Nat.zero_le _⟩ (fun H locs hP hD hS => ?_)
  refine lv_istore (lv' := [(4, .int r3.1), (3, .int r2), (2, .int o_this.2.2.1), (0, .ref (ad 22)), (1, .int a1)]) hx hb dX4_coil_31 hl (by decide) rfl (fun ls hl => ?_)
  refine lv_iload_n hx hb dX4_coil_33 rfl (lv_at hl 1 rfl) ?_
  refine lv_if_eq (tgt := 45) hx hb dX4_coil_34 (by decide) (fun c4 => ?_) (fun c4 => ?_)
  · replace hM := if_t c4 hM
    refine lv_aload_n hx hb dX4_coil_45 rfl (lv_at hl 3 rfl) ?_
    refine lv_iload hx hb dX4_coil_46 (lv_at hl 0 rfl) ?_
    obtain ⟨r5, hcr5, hM⟩ := ob_use hM
    refine cl_V (As := [.int r3.1]) (rest := []) (wP cI ad r5.1 ++ wK cI ad o_tokens ++ wT cI ad r5.2) [] ⟨hx, hb, hml, hown, hts⟩ (c_Parser_nameNode l D cI sd ad r1 o_tokens r3.2 r3.1 r5 hcr5) (cwV2 hts q657 mvX4_nameNode rfl rfl ⟨(Nat.le_of_ble_eq_true rfl), (Nat.le_of_ble_eq_true rfl)⟩) hK hE hA hP hD hS 0 (T := TX4) (N := 12) (ci := 4) rfl rfl [0, 1, 2, 3, 4, 5, 6, 7, 8, 9, 10, 11, 12] rfl (by decide) rfl rfl rfl rfl rfl rfl hl.1 (Nat.le_of_ble_eq_true rfl) dX4_coil_48 ⟨Nat.zero_le _, Nat.zero_le _⟩ (fun H locs hP hD hS => ?_)
    refine lv_aload_n hx hb dX4_coil_51 rfl (lv_at hl 3 rfl) ?_
    refine lv_bipush (v := 41) hx hb dX4_coil_52 (by decide) ?_
    obtain ⟨r6, hcr6, hM⟩ := ob_use hM
    refine cl_V (As := [.int 41]) (rest := []) (wP cI ad r6 ++ wK cI ad o_tokens ++ wT cI ad r5.2) [] ⟨hx, hb, hml, hown, hts⟩ (c_Parser_take l D cI sd ad r5.1 o_tokens 41 r6 hcr6) (cwV2 hts q614 mvX4_take rfl rfl ⟨(Nat.le_of_ble_eq_true rfl), (Nat.le_of_ble_eq_true rfl)⟩) hK hE hA hP hD hS 0 (T := TX4) (N := 12) (ci := 4) rfl rfl [0, 1, 2, 3, 4] rfl (by decide) rfl rfl rfl rfl rfl rfl hl.1 (Nat.le_of_ble_eq_true rfl) dX4_coil_54 ⟨Nat.zero_le _, Nat.zero_le _⟩ (fun H locs hP hD hS => ?_)
    cases hM
    exact rt_v hx hb hr hlk hP hD hS rfl dX4_coil_57
  · replace hM := if_f c4 hM
    refine lv_aload_n hx hb dX4_coil_37 rfl (lv_at hl 3 rfl) ?_
    refine lv_aload_n hx hb dX4_coil_38 rfl (lv_at hl 3 rfl) ?_
    refine va_get (D := D) (ci := 4) (v := .int r1.2.1) (C := RX4) (T := TX4) (N := 12) hx hb hts layX4 hown hK hP 0 rfl rfl 3 (by decide) (hts _ (inA q400)) (fun _ h9 => h9) rfl dX4_coil_39 ?_
    obtain ⟨r7, hcr7, hM⟩ := ob_use hM
    refine cl_V (As := [.int r1.2.1]) (rest := []) (wP cI ad r7 ++ wK cI ad o_tokens ++ wT cI ad r3.2) [] ⟨hx, hb, hml, hown, hts⟩ (c_Parser_take l D cI sd ad r1 o_tokens r1.2.1 r7 hcr7) (cwV2 hts q614 mvX4_take rfl rfl ⟨(Nat.le_of_ble_eq_true rfl), (Nat.le_of_ble_eq_true rfl)⟩) hK hE hA hP hD hS 0 (T := TX4) (N := 12) (ci := 4) rfl rfl [0, 1, 2, 3, 4] rfl (by decide) rfl rfl rfl rfl rfl rfl hl.1 (Nat.le_of_ble_eq_true rfl) dX4_coil_42 ⟨Nat.zero_le _, Nat.zero_le _⟩ (fun H locs hP hD hS => ?_)
    refine lv_aload_n hx hb dX4_coil_45 rfl (lv_at hl 3 rfl) ?_
    refine lv_iload hx hb dX4_coil_46 (lv_at hl 0 rfl) ?_
    obtain ⟨r8, hcr8, hM⟩ := ob_use hM
    refine cl_V (As := [.int r3.1]) (rest := []) (wP cI ad r8.1 ++ wK cI ad o_tokens ++ wT cI ad r8.2) [] ⟨hx, hb, hml, hown, hts⟩ (c_Parser_nameNode l D cI sd ad r7 o_tokens r3.2 r3.1 r8 hcr8) (cwV2 hts q657 mvX4_nameNode rfl rfl ⟨(Nat.le_of_ble_eq_true rfl), (Nat.le_of_ble_eq_true rfl)⟩) hK hE hA hP hD hS 0 (T := TX4) (N := 12) (ci := 4) rfl rfl [0, 1, 2, 3, 4, 5, 6, 7, 8, 9, 10, 11, 12] rfl (by decide) rfl rfl rfl rfl rfl rfl hl.1 (Nat.le_of_ble_eq_true rfl) dX4_coil_48 ⟨Nat.zero_le _, Nat.zero_le _⟩ (fun H locs hP hD hS => ?_)
    refine lv_aload_n hx hb dX4_coil_51 rfl (lv_at hl 3 rfl) ?_
    refine lv_bipush (v := 41) hx hb dX4_coil_52 (by decide) ?_
    obtain ⟨r9, hcr9, hM⟩ := ob_use hM
    refine cl_V (As := [.int 41]) (rest := []) (wP cI ad r9 ++ wK cI ad o_tokens ++ wT cI ad r8.2) [] ⟨hx, hb, hml, hown, hts⟩ (c_Parser_take l D cI sd ad r8.1 o_tokens 41 r9 hcr9) (cwV2 hts q614 mvX4_take rfl rfl ⟨(Nat.le_of_ble_eq_true rfl), (Nat.le_of_ble_eq_true rfl)⟩) hK hE hA hP hD hS 0 (T := TX4) (N := 12) (ci := 4) rfl rfl [0, 1, 2, 3, 4] rfl (by decide) rfl rfl rfl rfl rfl rfl hl.1 (Nat.le_of_ble_eq_true rfl) dX4_coil_54 ⟨Nat.zero_le _, Nat.zero_le _⟩ (fun H locs hP hD hS => ?_)
    cases hM
    exact rt_v hx hb hr hlk hP hD hS rfl dX4_coil_57

set_option maxHeartbeats 4000000 in
set_option maxRecDepth 100000 in
theorem c_Parser_contactValue (l : Launch) (D : va_G) (cI : ClassId) (sd : Nat → Nat) (ad : Nat → Nat) (a1 : Int32) (res : Int32) (hM : f_Parser_contactValue a1 = some res) : Ctr l D cI sd yX4_contactValue (wsM yX4_contactValue cX4_contactValue 1 (Option.some Jvm.ClassFile.FieldType.int)) { frames := 0, cells := 0, slots := 0, locals := 0 } [.int a1] (([] : va_W)) (([] : va_W)) (some (.int res)) := by
  refine Ctr.of (cc := cX4_contactValue) (maxL := 1) (own := RX4) (by decide +kernel) rfl rfl (Nat.le_of_ble_eq_true rfl) ?_
  intro p e s m below meth c A ls hx hb hr hml hown hts hlk hK hE hA hP hD hS hl
  have hl : lv_has ls 1 [(0, .int a1)] := hl
  unfold f_Parser_contactValue at hM
  refine lv_iload_n hx hb dX4_contactValue_0 rfl (lv_at hl 0 rfl) ?_
  by_cases c1 : a1 = 47
  · replace hM := if_t c1 hM
    refine lv_lookup (off := 35) (tgt := 36) hx hb dX4_contactValue_1 (by decide) (by exact sw_hit c1 (by decide)) (by decide) ?_
    refine lv_iconst (v := 1) hx hb dX4_contactValue_36 (by decide) ?_
    cases hM
    exact rt_i hx hb hr hlk hP hD hS rfl dX4_contactValue_37
  replace hM := if_f c1 hM
  by_cases c2 : a1 = 60
  · replace hM := if_t c2 hM
    refine lv_lookup (off := 39) (tgt := 40) hx hb dX4_contactValue_1 (by decide) (by rw [lv_osw c1 (by decide)]; exact sw_hit c2 (by decide)) (by decide) ?_
    refine lv_iconst (v := 3) hx hb dX4_contactValue_40 (by decide) ?_
    cases hM
    exact rt_i hx hb hr hlk hP hD hS rfl dX4_contactValue_41
  replace hM := if_f c2 hM
  by_cases c3 : a1 = 62
  · replace hM := if_t c3 hM
    refine lv_lookup (off := 37) (tgt := 38) hx hb dX4_contactValue_1 (by decide) (by rw [lv_osw c1 (by decide)]; rw [lv_osw c2 (by decide)]; exact sw_hit c3 (by decide)) (by decide) ?_
    refine lv_iconst (v := 2) hx hb dX4_contactValue_38 (by decide) ?_
    cases hM
    exact rt_i hx hb hr hlk hP hD hS rfl dX4_contactValue_39
  replace hM := if_f c3 hM
  refine lv_lookup (off := 41) (tgt := 42) hx hb dX4_contactValue_1 (by decide) (by rw [lv_osw c1 (by decide)]; rw [lv_osw c2 (by decide)]; rw [lv_osw c3 (by decide)]; rfl) (by decide) ?_
  refine lv_iconst (v := 0) hx hb dX4_contactValue_42 (by decide) ?_
  cases hM
  exact rt_i hx hb hr hlk hP hD hS rfl dX4_contactValue_43

set_option maxHeartbeats 4000000 in
set_option maxRecDepth 100000 in
theorem c_Parser_contact (l : Launch) (D : va_G) (cI : ClassId) (sd : Nat → Nat) (ad : Nat → Nat) (o_this : S_Parser) (o_tokens : S_Tokens) (o_tree : S_Tree) (a1 : Int32) (res : S_Parser × S_Tree) (hM : f_Parser_contact o_this o_tokens o_tree a1 = some res) : Ctr l D cI sd yX4_contact (wsM yX4_contact cX4_contact 6 (Option.none : Option Jvm.ClassFile.FieldType)) { frames := 2, cells := 0, slots := 0, locals := 46 } [.ref (ad 22), .int a1] (wP cI ad o_this ++ wK cI ad o_tokens ++ wT cI ad o_tree) (wP cI ad res.1 ++ wK cI ad o_tokens ++ wT cI ad res.2) none := by
  refine Ctr.of (cc := cX4_contact) (maxL := 6) (own := RX4) (by decide +kernel) rfl rfl (Nat.le_of_ble_eq_true rfl) ?_
  intro p e s m below meth c A ls hx hb hr hml hown hts hlk hK hE hA hP hD hS hl
  have hl : lv_has ls 6 [(0, .ref (ad 22)), (1, .int a1)] := hl
  unfold f_Parser_contact at hM
  refine lv_aload_n hx hb dX4_contact_0 rfl (lv_at hl 0 rfl) ?_
  refine va_get (D := D) (ci := 4) (v := .int o_this.2.1) (C := RX4) (T := TX4) (N := 12) hx hb hts layX4 hown hK hP 0 rfl rfl 3 (by decide) (hts _ (inA q400)) (fun _ h9 => h9) rfl dX4_contact_1 ?_
  obtain ⟨r1, hcr1, hM⟩ := ob_use hM
  refine cl_S (As := [.int o_this.2.1]) (rest := []) (wP cI ad o_this ++ wK cI ad o_tokens ++ wT cI ad o_tree) (.int r1 :: []) ⟨hx, hb, hml, hown, hts⟩ (c_Parser_contactValue l D cI sd ad o_this.2.1 r1 hcr1) (cwS2 hts q696 mvX4_contactValue rfl rfl ⟨(Nat.le_of_ble_eq_true rfl), (Nat.le_of_ble_eq_true rfl)⟩) hK hE hA hP hD hS [] rfl (by decide) rfl rfl rfl rfl rfl rfl hl.1 (Nat.le_of_ble_eq_true rfl) dX4_contact_4 ⟨Nat.zero_le _, Nat.zero_le _⟩ (fun H locs hP hD hS => ?_)
  refine lv_istore_n (lv' := [(2, .int r1), (0, .ref (ad 22)), (1, .int a1)]) hx hb dX4_contact_7 rfl hl (by decide) rfl (fun ls hl => ?_)
  refine lv_aload_n hx hb dX4_contact_8 rfl (lv_at hl 1 rfl) ?_
  refine va_get (D := D) (ci := 4) (v := .ref (ad 14)) (C := RX4) (T := TX4) (N := 12) hx hb hts layX4 hown hK hP 0 rfl rfl 1 (by decide) (hts _ (inA q398)) (fun _ h9 => h9) rfl dX4_contact_9 ?_
  refine lv_iload_n hx hb dX4_contact_12 rfl (lv_at hl 2 rfl) ?_
  refine lv_bipush (v := 25) hx hb dX4_contact_13 (by decide) ?_
  refine lv_aload_n hx hb dX4_contact_15 rfl (lv_at hl 1 rfl) ?_
  refine va_get (D := D) (ci := 4) (v := .int o_this.2.2.1) (C := RX4) (T := TX4) (N := 12) hx hb hts layX4 hown hK hP 0 rfl rfl 4 (by decide) (hts _ (inA q401)) (fun _ h9 => h9) rfl dX4_contact_16 ?_
  refine lv_iload_n hx hb dX4_contact_19 rfl (lv_at hl 0 rfl) ?_
  obtain ⟨r2, hcr2, hM⟩ := ob_use hM
  refine cl_V (As := [.int a1, .int 25, .int o_this.2.2.1, .int r1]) (rest := []) (wP cI ad o_this ++ wK cI ad o_tokens ++ wT cI ad r2.2) (.int r2.1 :: []) ⟨hx, hb, hml, hown, hts⟩ (c_Tree_add l D cI sd ad o_tree a1 25 o_this.2.2.1 r1 r2 hcr2) (cwV2 hts q622 mvX3_add rfl rfl ⟨(Nat.le_of_ble_eq_true rfl), (Nat.le_of_ble_eq_true rfl)⟩) hK hE hA hP hD hS 5 (T := TX3) (N := 8) (ci := 3) rfl rfl [5, 6, 7, 8, 9, 10, 11, 12] rfl (by decide) rfl rfl rfl rfl rfl rfl hl.1 (Nat.le_of_ble_eq_true rfl) dX4_contact_20 ⟨Nat.zero_le _, Nat.zero_le _⟩ (fun H locs hP hD hS => ?_)
  refine lv_istore_n (lv' := [(3, .int r2.1), (2, .int r1), (0, .ref (ad 22)), (1, .int a1)]) hx hb dX4_contact_23 rfl hl (by decide) rfl (fun ls hl => ?_)
  refine lv_iload_n hx hb dX4_contact_24 rfl (lv_at hl 1 rfl) ?_
  refine lv_if_eq (tgt := 36) hx hb dX4_contact_25 (by decide) (fun c3 => ?_) (fun c3 => ?_)
  · replace hM := if_t c3 hM
    refine lv_aload_n hx hb dX4_contact_36 rfl (lv_at hl 2 rfl) ?_
    refine va_get (D := D) (ci := 4) (v := .int o_this.2.2.1) (C := RX4) (T := TX4) (N := 12) hx hb hts layX4 hown hK hP 0 rfl rfl 4 (by decide) (hts _ (inA q401)) (fun _ h9 => h9) rfl dX4_contact_37 ?_
    refine lv_istore (lv' := [(4, .int o_this.2.2.1), (3, .int r2.1), (2, .int r1), (0, .ref (ad 22)), (1, .int a1)]) hx hb dX4_contact_40 hl (by decide) rfl (fun ls hl => ?_)
    refine lv_aload_n hx hb dX4_contact_42 rfl (lv_at hl 3 rfl) ?_
    obtain ⟨r4, hcr4, hM⟩ := ob_use hM
    refine cl_V (As := []) (rest := []) (wP cI ad r4.2 ++ wK cI ad o_tokens ++ wT cI ad r2.2) (.int r4.1 :: []) ⟨hx, hb, hml, hown, hts⟩ (c_Parser_takeName l D cI sd ad o_this o_tokens r4 hcr4) (cwV2 hts q637 mvX4_takeName rfl rfl ⟨(Nat.le_of_ble_eq_true rfl), (Nat.le_of_ble_eq_true rfl)⟩) hK hE hA hP hD hS 0 (T := TX4) (N := 12) (ci := 4) rfl rfl [0, 1, 2, 3, 4] rfl (by decide) rfl rfl rfl rfl rfl rfl hl.1 (Nat.le_of_ble_eq_true rfl) dX4_contact_43 ⟨Nat.zero_le _, Nat.zero_le _⟩ (fun H locs hP hD hS => ?_)
    refine lv_istore (lv' := [(5, .int r4.1), (4, .int o_this.2.2.1), (3, .int r2.1), (2, .int r1), (0, .ref (ad 22)), (1, .int a1)]) hx hb dX4_contact_46 hl (by decide) rfl (fun ls hl => ?_)
    refine lv_aload_n hx hb dX4_contact_48 rfl (lv_at hl 4 rfl) ?_
    refine va_get (D := D) (ci := 4) (v := .int r4.2.2.1) (C := RX4) (T := TX4) (N := 12) hx hb hts layX4 hown hK hP 0 rfl rfl 3 (by decide) (hts _ (inA q400)) (fun _ h9 => h9) rfl dX4_contact_49 ?_
    refine lv_bipush (v := 46) hx hb dX4_contact_52 (by decide) ?_
    refine lv_icmp_ne (tgt := 84) hx hb dX4_contact_54 (by decide) (fun c5 => ?_) (fun c5 => ?_)
    · replace hM := if_f c5 hM
      refine lv_aload_n hx hb dX4_contact_84 rfl (lv_at hl 4 rfl) ?_
      refine va_get (D := D) (ci := 4) (v := .ref (ad 14)) (C := RX4) (T := TX4) (N := 12) hx hb hts layX4 hown hK hP 0 rfl rfl 1 (by decide) (hts _ (inA q398)) (fun _ h9 => h9) rfl dX4_contact_85 ?_
      refine lv_iload_n hx hb dX4_contact_88 rfl (lv_at hl 2 rfl) ?_
      refine lv_bipush (v := 6) hx hb dX4_contact_89 (by decide) ?_
      refine lv_iload hx hb dX4_contact_91 (lv_at hl 1 rfl) ?_
      refine lv_iload hx hb dX4_contact_93 (lv_at hl 0 rfl) ?_
      obtain ⟨r6, hcr6, hM⟩ := ob_use hM
      refine cl_V (As := [.int r2.1, .int 6, .int o_this.2.2.1, .int r4.1]) (rest := []) (wP cI ad r4.2 ++ wK cI ad o_tokens ++ wT cI ad r6.2) (.int r6.1 :: []) ⟨hx, hb, hml, hown, hts⟩ (c_Tree_add l D cI sd ad r2.2 r2.1 6 o_this.2.2.1 r4.1 r6 hcr6) (cwV2 hts q622 mvX3_add rfl rfl ⟨(Nat.le_of_ble_eq_true rfl), (Nat.le_of_ble_eq_true rfl)⟩) hK hE hA hP hD hS 5 (T := TX3) (N := 8) (ci := 3) rfl rfl [5, 6, 7, 8, 9, 10, 11, 12] rfl (by decide) rfl rfl rfl rfl rfl rfl hl.1 (Nat.le_of_ble_eq_true rfl) dX4_contact_95 ⟨Nat.zero_le _, Nat.zero_le _⟩ (fun H locs hP hD hS => ?_)
      refine lv_pop hx hb dX4_contact_98 rfl ?_
      cases hM
      exact rt_v hx hb hr hlk hP hD hS rfl dX4_contact_99
    · replace hM := if_t c5 hM
      refine lv_aload_n hx hb dX4_contact_57 rfl (lv_at hl 4 rfl) ?_
      refine lv_bipush (v := 46) hx hb dX4_contact_58 (by decide) ?_
      obtain ⟨r7, hcr7, hM⟩ := ob_use hM
      refine cl_V (As := [.int 46]) (rest := []) (wP cI ad r7 ++ wK cI ad o_tokens ++ wT cI ad r2.2) [] ⟨hx, hb, hml, hown, hts⟩ (c_Parser_take l D cI sd ad r4.2 o_tokens 46 r7 hcr7) (cwV2 hts q614 mvX4_take rfl rfl ⟨(Nat.le_of_ble_eq_true rfl), (Nat.le_of_ble_eq_true rfl)⟩) hK hE hA hP hD hS 0 (T := TX4) (N := 12) (ci := 4) rfl rfl [0, 1, 2, 3, 4] rfl (by decide) rfl rfl rfl rfl rfl rfl hl.1 (Nat.le_of_ble_eq_true rfl) dX4_contact_60 ⟨Nat.zero_le _, Nat.zero_le _⟩ (fun H locs hP hD hS => ?_)
      refine lv_aload_n hx hb dX4_contact_63 rfl (lv_at hl 4 rfl) ?_
      refine lv_aload_n hx hb dX4_contact_64 rfl (lv_at hl 4 rfl) ?_
      refine va_get (D := D) (ci := 4) (v := .ref (ad 14)) (C := RX4) (T := TX4) (N := 12) hx hb hts layX4 hown hK hP 0 rfl rfl 1 (by decide) (hts _ (inA q398)) (fun _ h9 => h9) rfl dX4_contact_65 ?_
      refine lv_iload_n hx hb dX4_contact_68 rfl (lv_at hl 2 rfl) ?_
      refine lv_bipush (v := 33) hx hb dX4_contact_69 (by decide) ?_
      refine lv_iload hx hb dX4_contact_71 (lv_at hl 1 rfl) ?_
      refine lv_iload hx hb dX4_contact_73 (lv_at hl 0 rfl) ?_
      obtain ⟨r8, hcr8, hM⟩ := ob_use hM
      refine cl_V (As := [.int r2.1, .int 33, .int o_this.2.2.1, .int r4.1]) (rest := [.ref (ad 22)]) (wP cI ad r7 ++ wK cI ad o_tokens ++ wT cI ad r8.2) (.int r8.1 :: [.ref (ad 22)]) ⟨hx, hb, hml, hown, hts⟩ (c_Tree_add l D cI sd ad r2.2 r2.1 33 o_this.2.2.1 r4.1 r8 hcr8) (cwV2 hts q622 mvX3_add rfl rfl ⟨(Nat.le_of_ble_eq_true rfl), (Nat.le_of_ble_eq_true rfl)⟩) hK hE hA hP hD hS 5 (T := TX3) (N := 8) (ci := 3) rfl rfl [5, 6, 7, 8, 9, 10, 11, 12] rfl (by decide) rfl rfl rfl rfl rfl rfl hl.1 (Nat.le_of_ble_eq_true rfl) dX4_contact_75 ⟨Nat.zero_le _, Nat.zero_le _⟩ (fun H locs hP hD hS => ?_)
      obtain ⟨r9, hcr9, hM⟩ := ob_use hM
      refine cl_V (As := [.int r8.1]) (rest := []) (wP cI ad r9.1 ++ wK cI ad o_tokens ++ wT cI ad r9.2) [] ⟨hx, hb, hml, hown, hts⟩ (c_Parser_nameNode l D cI sd ad r7 o_tokens r8.2 r8.1 r9 hcr9) (cwV2 hts q657 mvX4_nameNode rfl rfl ⟨(Nat.le_of_ble_eq_true rfl), (Nat.le_of_ble_eq_true rfl)⟩) hK hE hA hP hD hS 0 (T := TX4) (N := 12) (ci := 4) rfl rfl [0, 1, 2, 3, 4, 5, 6, 7, 8, 9, 10, 11, 12] rfl (by decide) rfl rfl rfl rfl rfl rfl hl.1 (Nat.le_of_ble_eq_true rfl) dX4_contact_78 ⟨Nat.zero_le _, Nat.zero_le _⟩ (fun H locs hP hD hS => ?_)
      refine lv_goto (tgt := 99) hx hb dX4_contact_81 (by decide) ?_
      cases hM
      exact rt_v hx hb hr hlk hP hD hS rfl dX4_contact_99
  · replace hM := if_f c3 hM
    refine lv_aload_n hx hb dX4_contact_28 rfl (lv_at hl 2 rfl) ?_
    refine lv_aload_n hx hb dX4_contact_29 rfl (lv_at hl 2 rfl) ?_
    refine va_get (D := D) (ci := 4) (v := .int o_this.2.1) (C := RX4) (T := TX4) (N := 12) hx hb hts layX4 hown hK hP 0 rfl rfl 3 (by decide) (hts _ (inA q400)) (fun _ h9 => h9) rfl dX4_contact_30 ?_
    obtain ⟨r10, hcr10, hM⟩ := ob_use hM
    refine cl_V (As := [.int o_this.2.1]) (rest := []) (wP cI ad r10 ++ wK cI ad o_tokens ++ wT cI ad r2.2) [] ⟨hx, hb, hml, hown, hts⟩ (c_Parser_take l D cI sd ad o_this o_tokens o_this.2.1 r10 hcr10) (cwV2 hts q614 mvX4_take rfl rfl ⟨(Nat.le_of_ble_eq_true rfl), (Nat.le_of_ble_eq_true rfl)⟩) hK hE hA hP hD hS 0 (T := TX4) (N := 12) (ci := 4) rfl rfl [0, 1, 2, 3, 4] rfl (by decide) rfl rfl rfl rfl rfl rfl hl.1 (Nat.le_of_ble_eq_true rfl) dX4_contact_33 ⟨Nat.zero_le _, Nat.zero_le _⟩ (fun H locs hP hD hS => ?_)
    refine lv_aload_n hx hb dX4_contact_36 rfl (lv_at hl 2 rfl) ?_
    refine va_get (D := D) (ci := 4) (v := .int r10.2.2.1) (C := RX4) (T := TX4) (N := 12) hx hb hts layX4 hown hK hP 0 rfl rfl 4 (by decide) (hts _ (inA q401)) (fun _ h9 => h9) rfl dX4_contact_37 ?_
    refine lv_istore (lv' := [(4, .int r10.2.2.1), (3, .int r2.1), (2, .int r1), (0, .ref (ad 22)), (1, .int a1)]) hx hb dX4_contact_40 hl (by decide) rfl (fun ls hl => ?_)
    refine lv_aload_n hx hb dX4_contact_42 rfl (lv_at hl 3 rfl) ?_
    obtain ⟨r11, hcr11, hM⟩ := ob_use hM
    refine cl_V (As := []) (rest := []) (wP cI ad r11.2 ++ wK cI ad o_tokens ++ wT cI ad r2.2) (.int r11.1 :: []) ⟨hx, hb, hml, hown, hts⟩ (c_Parser_takeName l D cI sd ad r10 o_tokens r11 hcr11) (cwV2 hts q637 mvX4_takeName rfl rfl ⟨(Nat.le_of_ble_eq_true rfl), (Nat.le_of_ble_eq_true rfl)⟩) hK hE hA hP hD hS 0 (T := TX4) (N := 12) (ci := 4) rfl rfl [0, 1, 2, 3, 4] rfl (by decide) rfl rfl rfl rfl rfl rfl hl.1 (Nat.le_of_ble_eq_true rfl) dX4_contact_43 ⟨Nat.zero_le _, Nat.zero_le _⟩ (fun H locs hP hD hS => ?_)
    refine lv_istore (lv' := [(5, .int r11.1), (4, .int r10.2.2.1), (3, .int r2.1), (2, .int r1), (0, .ref (ad 22)), (1, .int a1)]) hx hb dX4_contact_46 hl (by decide) rfl (fun ls hl => ?_)
    refine lv_aload_n hx hb dX4_contact_48 rfl (lv_at hl 4 rfl) ?_
    refine va_get (D := D) (ci := 4) (v := .int r11.2.2.1) (C := RX4) (T := TX4) (N := 12) hx hb hts layX4 hown hK hP 0 rfl rfl 3 (by decide) (hts _ (inA q400)) (fun _ h9 => h9) rfl dX4_contact_49 ?_
    refine lv_bipush (v := 46) hx hb dX4_contact_52 (by decide) ?_
    refine lv_icmp_ne (tgt := 84) hx hb dX4_contact_54 (by decide) (fun c12 => ?_) (fun c12 => ?_)
    · replace hM := if_f c12 hM
      refine lv_aload_n hx hb dX4_contact_84 rfl (lv_at hl 4 rfl) ?_
      refine va_get (D := D) (ci := 4) (v := .ref (ad 14)) (C := RX4) (T := TX4) (N := 12) hx hb hts layX4 hown hK hP 0 rfl rfl 1 (by decide) (hts _ (inA q398)) (fun _ h9 => h9) rfl dX4_contact_85 ?_
      refine lv_iload_n hx hb dX4_contact_88 rfl (lv_at hl 2 rfl) ?_
      refine lv_bipush (v := 6) hx hb dX4_contact_89 (by decide) ?_
      refine lv_iload hx hb dX4_contact_91 (lv_at hl 1 rfl) ?_
      refine lv_iload hx hb dX4_contact_93 (lv_at hl 0 rfl) ?_
      obtain ⟨r13, hcr13, hM⟩ := ob_use hM
      refine cl_V (As := [.int r2.1, .int 6, .int r10.2.2.1, .int r11.1]) (rest := []) (wP cI ad r11.2 ++ wK cI ad o_tokens ++ wT cI ad r13.2) (.int r13.1 :: []) ⟨hx, hb, hml, hown, hts⟩ (c_Tree_add l D cI sd ad r2.2 r2.1 6 r10.2.2.1 r11.1 r13 hcr13) (cwV2 hts q622 mvX3_add rfl rfl ⟨(Nat.le_of_ble_eq_true rfl), (Nat.le_of_ble_eq_true rfl)⟩) hK hE hA hP hD hS 5 (T := TX3) (N := 8) (ci := 3) rfl rfl [5, 6, 7, 8, 9, 10, 11, 12] rfl (by decide) rfl rfl rfl rfl rfl rfl hl.1 (Nat.le_of_ble_eq_true rfl) dX4_contact_95 ⟨Nat.zero_le _, Nat.zero_le _⟩ (fun H locs hP hD hS => ?_)
      refine lv_pop hx hb dX4_contact_98 rfl ?_
      cases hM
      exact rt_v hx hb hr hlk hP hD hS rfl dX4_contact_99
    · replace hM := if_t c12 hM
      refine lv_aload_n hx hb dX4_contact_57 rfl (lv_at hl 4 rfl) ?_
      refine lv_bipush (v := 46) hx hb dX4_contact_58 (by decide) ?_
      obtain ⟨r14, hcr14, hM⟩ := ob_use hM
      refine cl_V (As := [.int 46]) (rest := []) (wP cI ad r14 ++ wK cI ad o_tokens ++ wT cI ad r2.2) [] ⟨hx, hb, hml, hown, hts⟩ (c_Parser_take l D cI sd ad r11.2 o_tokens 46 r14 hcr14) (cwV2 hts q614 mvX4_take rfl rfl ⟨(Nat.le_of_ble_eq_true rfl), (Nat.le_of_ble_eq_true rfl)⟩) hK hE hA hP hD hS 0 (T := TX4) (N := 12) (ci := 4) rfl rfl [0, 1, 2, 3, 4] rfl (by decide) rfl rfl rfl rfl rfl rfl hl.1 (Nat.le_of_ble_eq_true rfl) dX4_contact_60 ⟨Nat.zero_le _, Nat.zero_le _⟩ (fun H locs hP hD hS => ?_)
      refine lv_aload_n hx hb dX4_contact_63 rfl (lv_at hl 4 rfl) ?_
      refine lv_aload_n hx hb dX4_contact_64 rfl (lv_at hl 4 rfl) ?_
      refine va_get (D := D) (ci := 4) (v := .ref (ad 14)) (C := RX4) (T := TX4) (N := 12) hx hb hts layX4 hown hK hP 0 rfl rfl 1 (by decide) (hts _ (inA q398)) (fun _ h9 => h9) rfl dX4_contact_65 ?_
      refine lv_iload_n hx hb dX4_contact_68 rfl (lv_at hl 2 rfl) ?_
      refine lv_bipush (v := 33) hx hb dX4_contact_69 (by decide) ?_
      refine lv_iload hx hb dX4_contact_71 (lv_at hl 1 rfl) ?_
      refine lv_iload hx hb dX4_contact_73 (lv_at hl 0 rfl) ?_
      obtain ⟨r15, hcr15, hM⟩ := ob_use hM
      refine cl_V (As := [.int r2.1, .int 33, .int r10.2.2.1, .int r11.1]) (rest := [.ref (ad 22)]) (wP cI ad r14 ++ wK cI ad o_tokens ++ wT cI ad r15.2) (.int r15.1 :: [.ref (ad 22)]) ⟨hx, hb, hml, hown, hts⟩ (c_Tree_add l D cI sd ad r2.2 r2.1 33 r10.2.2.1 r11.1 r15 hcr15) (cwV2 hts q622 mvX3_add rfl rfl ⟨(Nat.le_of_ble_eq_true rfl), (Nat.le_of_ble_eq_true rfl)⟩) hK hE hA hP hD hS 5 (T := TX3) (N := 8) (ci := 3) rfl rfl [5, 6, 7, 8, 9, 10, 11, 12] rfl (by decide) rfl rfl rfl rfl rfl rfl hl.1 (Nat.le_of_ble_eq_true rfl) dX4_contact_75 ⟨Nat.zero_le _, Nat.zero_le _⟩ (fun H locs hP hD hS => ?_)
      obtain ⟨r16, hcr16, hM⟩ := ob_use hM
      refine cl_V (As := [.int r15.1]) (rest := []) (wP cI ad r16.1 ++ wK cI ad o_tokens ++ wT cI ad r16.2) [] ⟨hx, hb, hml, hown, hts⟩ (c_Parser_nameNode l D cI sd ad r14 o_tokens r15.2 r15.1 r16 hcr16) (cwV2 hts q657 mvX4_nameNode rfl rfl ⟨(Nat.le_of_ble_eq_true rfl), (Nat.le_of_ble_eq_true rfl)⟩) hK hE hA hP hD hS 0 (T := TX4) (N := 12) (ci := 4) rfl rfl [0, 1, 2, 3, 4, 5, 6, 7, 8, 9, 10, 11, 12] rfl (by decide) rfl rfl rfl rfl rfl rfl hl.1 (Nat.le_of_ble_eq_true rfl) dX4_contact_78 ⟨Nat.zero_le _, Nat.zero_le _⟩ (fun H locs hP hD hS => ?_)
      refine lv_goto (tgt := 99) hx hb dX4_contact_81 (by decide) ?_
      cases hM
      exact rt_v hx hb hr hlk hP hD hS rfl dX4_contact_99

set_option maxHeartbeats 4000000 in
set_option maxRecDepth 100000 in
theorem c_Parser_cell (l : Launch) (D : va_G) (cI : ClassId) (sd : Nat → Nat) (ad : Nat → Nat) (o_this : S_Parser) (o_tokens : S_Tokens) (o_tree : S_Tree) (a1 : Int32) (res : S_Parser × S_Tree) (hM : f_Parser_cell o_this o_tokens o_tree a1 = some res) : Ctr l D cI sd yX4_cell (wsM yX4_cell cX4_cell 2 (Option.none : Option Jvm.ClassFile.FieldType)) { frames := 3, cells := 0, slots := 0, locals := 71 } [.ref (ad 22), .int a1] (wP cI ad o_this ++ wK cI ad o_tokens ++ wT cI ad o_tree) (wP cI ad res.1 ++ wK cI ad o_tokens ++ wT cI ad res.2) none := by
  refine Ctr.of (cc := cX4_cell) (maxL := 2) (own := RX4) (by decide +kernel) rfl rfl (Nat.le_of_ble_eq_true rfl) ?_
  intro p e s m below meth c A ls hx hb hr hml hown hts hlk hK hE hA hP hD hS hl
  have hl : lv_has ls 2 [(0, .ref (ad 22)), (1, .int a1)] := hl
  unfold f_Parser_cell at hM
  refine lv_aload_n hx hb dX4_cell_0 rfl (lv_at hl 0 rfl) ?_
  refine va_get (D := D) (ci := 4) (v := .int o_this.2.1) (C := RX4) (T := TX4) (N := 12) hx hb hts layX4 hown hK hP 0 rfl rfl 3 (by decide) (hts _ (inA q400)) (fun _ h9 => h9) rfl dX4_cell_1 ?_
  by_cases c1 : o_this.2.1 = 1
  · replace hM := if_t c1 hM
    refine lv_lookup (off := 126) (tgt := 130) hx hb dX4_cell_4 (by decide) (by exact sw_hit c1 (by decide)) (by decide) ?_
    refine lv_aload_n hx hb dX4_cell_130 rfl (lv_at hl 0 rfl) ?_
    refine lv_iload_n hx hb dX4_cell_131 rfl (lv_at hl 1 rfl) ?_
    obtain ⟨r2, hcr2, hM⟩ := ob_use hM
    refine cl_V (As := [.int a1]) (rest := []) (wP cI ad r2.1 ++ wK cI ad o_tokens ++ wT cI ad r2.2) [] ⟨hx, hb, hml, hown, hts⟩ (c_Parser_contact l D cI sd ad o_this o_tokens o_tree a1 r2 hcr2) (cwV2 hts q692 mvX4_contact rfl rfl ⟨(Nat.le_of_ble_eq_true rfl), (Nat.le_of_ble_eq_true rfl)⟩) hK hE hA hP hD hS 0 (T := TX4) (N := 12) (ci := 4) rfl rfl [0, 1, 2, 3, 4, 5, 6, 7, 8, 9, 10, 11, 12] rfl (by decide) rfl rfl rfl rfl rfl rfl hl.1 (Nat.le_of_ble_eq_true rfl) dX4_cell_132 ⟨Nat.zero_le _, Nat.zero_le _⟩ (fun H locs hP hD hS => ?_)
    refine lv_goto (tgt := 144) hx hb dX4_cell_135 (by decide) ?_
    cases hM
    exact rt_v hx hb hr hlk hP hD hS rfl dX4_cell_144
  replace hM := if_f c1 hM
  by_cases c3 : o_this.2.1 = 40
  · replace hM := if_t c3 hM
    refine lv_lookup (off := 118) (tgt := 122) hx hb dX4_cell_4 (by decide) (by rw [lv_osw c1 (by decide)]; exact sw_hit c3 (by decide)) (by decide) ?_
    refine lv_aload_n hx hb dX4_cell_122 rfl (lv_at hl 0 rfl) ?_
    refine lv_iload_n hx hb dX4_cell_123 rfl (lv_at hl 1 rfl) ?_
    obtain ⟨r4, hcr4, hM⟩ := ob_use hM
    refine cl_V (As := [.int a1]) (rest := []) (wP cI ad r4.1 ++ wK cI ad o_tokens ++ wT cI ad r4.2) [] ⟨hx, hb, hml, hown, hts⟩ (c_Parser_coil l D cI sd ad o_this o_tokens o_tree a1 r4 hcr4) (cwV2 hts q685 mvX4_coil rfl rfl ⟨(Nat.le_of_ble_eq_true rfl), (Nat.le_of_ble_eq_true rfl)⟩) hK hE hA hP hD hS 0 (T := TX4) (N := 12) (ci := 4) rfl rfl [0, 1, 2, 3, 4, 5, 6, 7, 8, 9, 10, 11, 12] rfl (by decide) rfl rfl rfl rfl rfl rfl hl.1 (Nat.le_of_ble_eq_true rfl) dX4_cell_124 ⟨Nat.zero_le _, Nat.zero_le _⟩ (fun H locs hP hD hS => ?_)
    refine lv_goto (tgt := 144) hx hb dX4_cell_127 (by decide) ?_
    cases hM
    exact rt_v hx hb hr hlk hP hD hS rfl dX4_cell_144
  replace hM := if_f c3 hM
  by_cases c5 : o_this.2.1 = 42
  · replace hM := if_t c5 hM
    refine lv_lookup (off := 93) (tgt := 97) hx hb dX4_cell_4 (by decide) (by rw [lv_osw c1 (by decide)]; rw [lv_osw c3 (by decide)]; exact sw_hit c5 (by decide)) (by decide) ?_
    refine lv_aload_n hx hb dX4_cell_97 rfl (lv_at hl 0 rfl) ?_
    refine va_get (D := D) (ci := 4) (v := .ref (ad 14)) (C := RX4) (T := TX4) (N := 12) hx hb hts layX4 hown hK hP 0 rfl rfl 1 (by decide) (hts _ (inA q398)) (fun _ h9 => h9) rfl dX4_cell_98 ?_
    refine lv_iload_n hx hb dX4_cell_101 rfl (lv_at hl 1 rfl) ?_
    refine lv_bipush (v := 27) hx hb dX4_cell_102 (by decide) ?_
    refine lv_aload_n hx hb dX4_cell_104 rfl (lv_at hl 0 rfl) ?_
    refine va_get (D := D) (ci := 4) (v := .int o_this.2.2.1) (C := RX4) (T := TX4) (N := 12) hx hb hts layX4 hown hK hP 0 rfl rfl 4 (by decide) (hts _ (inA q401)) (fun _ h9 => h9) rfl dX4_cell_105 ?_
    refine lv_iconst (v := 0) hx hb dX4_cell_108 (by decide) ?_
    obtain ⟨r6, hcr6, hM⟩ := ob_use hM
    refine cl_V (As := [.int a1, .int 27, .int o_this.2.2.1, .int 0]) (rest := []) (wP cI ad o_this ++ wK cI ad o_tokens ++ wT cI ad r6.2) (.int r6.1 :: []) ⟨hx, hb, hml, hown, hts⟩ (c_Tree_add l D cI sd ad o_tree a1 27 o_this.2.2.1 0 r6 hcr6) (cwV2 hts q622 mvX3_add rfl rfl ⟨(Nat.le_of_ble_eq_true rfl), (Nat.le_of_ble_eq_true rfl)⟩) hK hE hA hP hD hS 5 (T := TX3) (N := 8) (ci := 3) rfl rfl [5, 6, 7, 8, 9, 10, 11, 12] rfl (by decide) rfl rfl rfl rfl rfl rfl hl.1 (Nat.le_of_ble_eq_true rfl) dX4_cell_109 ⟨Nat.zero_le _, Nat.zero_le _⟩ (fun H locs hP hD hS => ?_)
    refine lv_pop hx hb dX4_cell_112 rfl ?_
    refine lv_aload_n hx hb dX4_cell_113 rfl (lv_at hl 0 rfl) ?_
    refine lv_bipush (v := 42) hx hb dX4_cell_114 (by decide) ?_
    obtain ⟨r7, hcr7, hM⟩ := ob_use hM
    refine cl_V (As := [.int 42]) (rest := []) (wP cI ad r7 ++ wK cI ad o_tokens ++ wT cI ad r6.2) [] ⟨hx, hb, hml, hown, hts⟩ (c_Parser_take l D cI sd ad o_this o_tokens 42 r7 hcr7) (cwV2 hts q614 mvX4_take rfl rfl ⟨(Nat.le_of_ble_eq_true rfl), (Nat.le_of_ble_eq_true rfl)⟩) hK hE hA hP hD hS 0 (T := TX4) (N := 12) (ci := 4) rfl rfl [0, 1, 2, 3, 4] rfl (by decide) rfl rfl rfl rfl rfl rfl hl.1 (Nat.le_of_ble_eq_true rfl) dX4_cell_116 ⟨Nat.zero_le _, Nat.zero_le _⟩ (fun H locs hP hD hS => ?_)
    refine lv_goto (tgt := 144) hx hb dX4_cell_119 (by decide) ?_
    cases hM
    exact rt_v hx hb hr hlk hP hD hS rfl dX4_cell_144
  replace hM := if_f c5 hM
  by_cases c8 : o_this.2.1 = 45
  · replace hM := if_t c8 hM
    refine lv_lookup (off := 68) (tgt := 72) hx hb dX4_cell_4 (by decide) (by rw [lv_osw c1 (by decide)]; rw [lv_osw c3 (by decide)]; rw [lv_osw c5 (by decide)]; exact sw_hit c8 (by decide)) (by decide) ?_
    refine lv_aload_n hx hb dX4_cell_72 rfl (lv_at hl 0 rfl) ?_
    refine va_get (D := D) (ci := 4) (v := .ref (ad 14)) (C := RX4) (T := TX4) (N := 12) hx hb hts layX4 hown hK hP 0 rfl rfl 1 (by decide) (hts _ (inA q398)) (fun _ h9 => h9) rfl dX4_cell_73 ?_
    refine lv_iload_n hx hb dX4_cell_76 rfl (lv_at hl 1 rfl) ?_
    refine lv_bipush (v := 26) hx hb dX4_cell_77 (by decide) ?_
    refine lv_aload_n hx hb dX4_cell_79 rfl (lv_at hl 0 rfl) ?_
    refine va_get (D := D) (ci := 4) (v := .int o_this.2.2.1) (C := RX4) (T := TX4) (N := 12) hx hb hts layX4 hown hK hP 0 rfl rfl 4 (by decide) (hts _ (inA q401)) (fun _ h9 => h9) rfl dX4_cell_80 ?_
    refine lv_iconst (v := 0) hx hb dX4_cell_83 (by decide) ?_
    obtain ⟨r9, hcr9, hM⟩ := ob_use hM
    refine cl_V (As := [.int a1, .int 26, .int o_this.2.2.1, .int 0]) (rest := []) (wP cI ad o_this ++ wK cI ad o_tokens ++ wT cI ad r9.2) (.int r9.1 :: []) ⟨hx, hb, hml, hown, hts⟩ (c_Tree_add l D cI sd ad o_tree a1 26 o_this.2.2.1 0 r9 hcr9) (cwV2 hts q622 mvX3_add rfl rfl ⟨(Nat.le_of_ble_eq_true rfl), (Nat.le_of_ble_eq_true rfl)⟩) hK hE hA hP hD hS 5 (T := TX3) (N := 8) (ci := 3) rfl rfl [5, 6, 7, 8, 9, 10, 11, 12] rfl (by decide) rfl rfl rfl rfl rfl rfl hl.1 (Nat.le_of_ble_eq_true rfl) dX4_cell_84 ⟨Nat.zero_le _, Nat.zero_le _⟩ (fun H locs hP hD hS => ?_)
    refine lv_pop hx hb dX4_cell_87 rfl ?_
    refine lv_aload_n hx hb dX4_cell_88 rfl (lv_at hl 0 rfl) ?_
    refine lv_bipush (v := 45) hx hb dX4_cell_89 (by decide) ?_
    obtain ⟨r10, hcr10, hM⟩ := ob_use hM
    refine cl_V (As := [.int 45]) (rest := []) (wP cI ad r10 ++ wK cI ad o_tokens ++ wT cI ad r9.2) [] ⟨hx, hb, hml, hown, hts⟩ (c_Parser_take l D cI sd ad o_this o_tokens 45 r10 hcr10) (cwV2 hts q614 mvX4_take rfl rfl ⟨(Nat.le_of_ble_eq_true rfl), (Nat.le_of_ble_eq_true rfl)⟩) hK hE hA hP hD hS 0 (T := TX4) (N := 12) (ci := 4) rfl rfl [0, 1, 2, 3, 4] rfl (by decide) rfl rfl rfl rfl rfl rfl hl.1 (Nat.le_of_ble_eq_true rfl) dX4_cell_91 ⟨Nat.zero_le _, Nat.zero_le _⟩ (fun H locs hP hD hS => ?_)
    refine lv_goto (tgt := 144) hx hb dX4_cell_94 (by decide) ?_
    cases hM
    exact rt_v hx hb hr hlk hP hD hS rfl dX4_cell_144
  replace hM := if_f c8 hM
  by_cases c11 : o_this.2.1 = 47
  · replace hM := if_t c11 hM
    refine lv_lookup (off := 126) (tgt := 130) hx hb dX4_cell_4 (by decide) (by rw [lv_osw c1 (by decide)]; rw [lv_osw c3 (by decide)]; rw [lv_osw c5 (by decide)]; rw [lv_osw c8 (by decide)]; exact sw_hit c11 (by decide)) (by decide) ?_
    refine lv_aload_n hx hb dX4_cell_130 rfl (lv_at hl 0 rfl) ?_
    refine lv_iload_n hx hb dX4_cell_131 rfl (lv_at hl 1 rfl) ?_
    obtain ⟨r12, hcr12, hM⟩ := ob_use hM
    refine cl_V (As := [.int a1]) (rest := []) (wP cI ad r12.1 ++ wK cI ad o_tokens ++ wT cI ad r12.2) [] ⟨hx, hb, hml, hown, hts⟩ (c_Parser_contact l D cI sd ad o_this o_tokens o_tree a1 r12 hcr12) (cwV2 hts q692 mvX4_contact rfl rfl ⟨(Nat.le_of_ble_eq_true rfl), (Nat.le_of_ble_eq_true rfl)⟩) hK hE hA hP hD hS 0 (T := TX4) (N := 12) (ci := 4) rfl rfl [0, 1, 2, 3, 4, 5, 6, 7, 8, 9, 10, 11, 12] rfl (by decide) rfl rfl rfl rfl rfl rfl hl.1 (Nat.le_of_ble_eq_true rfl) dX4_cell_132 ⟨Nat.zero_le _, Nat.zero_le _⟩ (fun H locs hP hD hS => ?_)
    refine lv_goto (tgt := 144) hx hb dX4_cell_135 (by decide) ?_
    cases hM
    exact rt_v hx hb hr hlk hP hD hS rfl dX4_cell_144
  replace hM := if_f c11 hM
  by_cases c13 : o_this.2.1 = 60
  · replace hM := if_t c13 hM
    refine lv_lookup (off := 126) (tgt := 130) hx hb dX4_cell_4 (by decide) (by rw [lv_osw c1 (by decide)]; rw [lv_osw c3 (by decide)]; rw [lv_osw c5 (by decide)]; rw [lv_osw c8 (by decide)]; rw [lv_osw c11 (by decide)]; exact sw_hit c13 (by decide)) (by decide) ?_
    refine lv_aload_n hx hb dX4_cell_130 rfl (lv_at hl 0 rfl) ?_
    refine lv_iload_n hx hb dX4_cell_131 rfl (lv_at hl 1 rfl) ?_
    obtain ⟨r14, hcr14, hM⟩ := ob_use hM
    refine cl_V (As := [.int a1]) (rest := []) (wP cI ad r14.1 ++ wK cI ad o_tokens ++ wT cI ad r14.2) [] ⟨hx, hb, hml, hown, hts⟩ (c_Parser_contact l D cI sd ad o_this o_tokens o_tree a1 r14 hcr14) (cwV2 hts q692 mvX4_contact rfl rfl ⟨(Nat.le_of_ble_eq_true rfl), (Nat.le_of_ble_eq_true rfl)⟩) hK hE hA hP hD hS 0 (T := TX4) (N := 12) (ci := 4) rfl rfl [0, 1, 2, 3, 4, 5, 6, 7, 8, 9, 10, 11, 12] rfl (by decide) rfl rfl rfl rfl rfl rfl hl.1 (Nat.le_of_ble_eq_true rfl) dX4_cell_132 ⟨Nat.zero_le _, Nat.zero_le _⟩ (fun H locs hP hD hS => ?_)
    refine lv_goto (tgt := 144) hx hb dX4_cell_135 (by decide) ?_
    cases hM
    exact rt_v hx hb hr hlk hP hD hS rfl dX4_cell_144
  replace hM := if_f c13 hM
  by_cases c15 : o_this.2.1 = 62
  · replace hM := if_t c15 hM
    refine lv_lookup (off := 126) (tgt := 130) hx hb dX4_cell_4 (by decide) (by rw [lv_osw c1 (by decide)]; rw [lv_osw c3 (by decide)]; rw [lv_osw c5 (by decide)]; rw [lv_osw c8 (by decide)]; rw [lv_osw c11 (by decide)]; rw [lv_osw c13 (by decide)]; exact sw_hit c15 (by decide)) (by decide) ?_
    refine lv_aload_n hx hb dX4_cell_130 rfl (lv_at hl 0 rfl) ?_
    refine lv_iload_n hx hb dX4_cell_131 rfl (lv_at hl 1 rfl) ?_
    obtain ⟨r16, hcr16, hM⟩ := ob_use hM
    refine cl_V (As := [.int a1]) (rest := []) (wP cI ad r16.1 ++ wK cI ad o_tokens ++ wT cI ad r16.2) [] ⟨hx, hb, hml, hown, hts⟩ (c_Parser_contact l D cI sd ad o_this o_tokens o_tree a1 r16 hcr16) (cwV2 hts q692 mvX4_contact rfl rfl ⟨(Nat.le_of_ble_eq_true rfl), (Nat.le_of_ble_eq_true rfl)⟩) hK hE hA hP hD hS 0 (T := TX4) (N := 12) (ci := 4) rfl rfl [0, 1, 2, 3, 4, 5, 6, 7, 8, 9, 10, 11, 12] rfl (by decide) rfl rfl rfl rfl rfl rfl hl.1 (Nat.le_of_ble_eq_true rfl) dX4_cell_132 ⟨Nat.zero_le _, Nat.zero_le _⟩ (fun H locs hP hD hS => ?_)
    refine lv_goto (tgt := 144) hx hb dX4_cell_135 (by decide) ?_
    cases hM
    exact rt_v hx hb hr hlk hP hD hS rfl dX4_cell_144
  replace hM := if_f c15 hM
  refine lv_lookup (off := 134) (tgt := 138) hx hb dX4_cell_4 (by decide) (by rw [lv_osw c1 (by decide)]; rw [lv_osw c3 (by decide)]; rw [lv_osw c5 (by decide)]; rw [lv_osw c8 (by decide)]; rw [lv_osw c11 (by decide)]; rw [lv_osw c13 (by decide)]; rw [lv_osw c15 (by decide)]; rfl) (by decide) ?_
  refine lv_aload_n hx hb dX4_cell_138 rfl (lv_at hl 0 rfl) ?_
  refine lv_bipush (v := 6) hx hb dX4_cell_139 (by decide) ?_
  refine va_put (D := D) (ci := 4) (v := .int 6) (ty := .int) (C := RX4) (T := TX4) (N := 12) hx hb hts layX4 tyX4 tyX4_ok nmX4 hown hK hP hD hS 0 rfl rfl 3 (by decide) (hts _ (inA q400)) (fun _ h9 => h9) rfl (by decide +kernel) rfl rfl (Nat.le_of_ble_eq_true rfl) dX4_cell_141 (fun H locs hP hD hS => ?_)
  have hP : va_P D vwCl (wP cI ad (o_this.1, 6, o_this.2.2) ++ wK cI ad o_tokens ++ wT cI ad o_tree) H := hP
  have hD : va_D A (wP cI ad (o_this.1, 6, o_this.2.2) ++ wK cI ad o_tokens ++ wT cI ad o_tree) := hD
  cases hM
  exact rt_v hx hb hr hlk hP hD hS rfl dX4_cell_144

set_option maxHeartbeats 4000000 in
set_option maxRecDepth 100000 in
theorem c_Parser_startsCell (l : Launch) (D : va_G) (cI : ClassId) (sd : Nat → Nat) (ad : Nat → Nat) (o_this : S_Parser) (res : Int32) (hM : f_Parser_startsCell o_this = some res) : Ctr l D cI sd yX4_startsCell (wsM yX4_startsCell cX4_startsCell 1 (Option.some Jvm.ClassFile.FieldType.boolean)) { frames := 0, cells := 0, slots := 0, locals := 0 } [.ref (ad 22)] (wP cI ad o_this) (wP cI ad o_this) (some (.int res)) := by
  refine Ctr.of (cc := cX4_startsCell) (maxL := 1) (own := RX4) (by decide +kernel) rfl rfl (Nat.le_of_ble_eq_true rfl) ?_
  intro p e s m below meth c A ls hx hb hr hml hown hts hlk hK hE hA hP hD hS hl
  have hl : lv_has ls 1 [(0, .ref (ad 22))] := hl
  unfold f_Parser_startsCell at hM
  refine lv_aload_n hx hb dX4_startsCell_0 rfl (lv_at hl 0 rfl) ?_
  refine va_get (D := D) (ci := 4) (v := .int o_this.2.1) (C := RX4) (T := TX4) (N := 12) hx hb hts layX4 hown hK hP 0 rfl rfl 3 (by decide) (hts _ (inA q400)) (fun _ h9 => h9) rfl dX4_startsCell_1 ?_
  by_cases c1 : o_this.2.1 = 1
  · replace hM := if_t c1 hM
    refine lv_lookup (off := 68) (tgt := 72) hx hb dX4_startsCell_4 (by decide) (by exact sw_hit c1 (by decide)) (by decide) ?_
    refine lv_iconst (v := 1) hx hb dX4_startsCell_72 (by decide) ?_
    cases hM
    exact rt_z hx hb hr hlk (by decide) hP hD hS rfl dX4_startsCell_73
  replace hM := if_f c1 hM
  by_cases c2 : o_this.2.1 = 40
  · replace hM := if_t c2 hM
    refine lv_lookup (off := 68) (tgt := 72) hx hb dX4_startsCell_4 (by decide) (by rw [lv_osw c1 (by decide)]; exact sw_hit c2 (by decide)) (by decide) ?_
    refine lv_iconst (v := 1) hx hb dX4_startsCell_72 (by decide) ?_
    cases hM
    exact rt_z hx hb hr hlk (by decide) hP hD hS rfl dX4_startsCell_73
  replace hM := if_f c2 hM
  by_cases c3 : o_this.2.1 = 42
  · replace hM := if_t c3 hM
    refine lv_lookup (off := 68) (tgt := 72) hx hb dX4_startsCell_4 (by decide) (by rw [lv_osw c1 (by decide)]; rw [lv_osw c2 (by decide)]; exact sw_hit c3 (by decide)) (by decide) ?_
    refine lv_iconst (v := 1) hx hb dX4_startsCell_72 (by decide) ?_
    cases hM
    exact rt_z hx hb hr hlk (by decide) hP hD hS rfl dX4_startsCell_73
  replace hM := if_f c3 hM
  by_cases c4 : o_this.2.1 = 45
  · replace hM := if_t c4 hM
    refine lv_lookup (off := 68) (tgt := 72) hx hb dX4_startsCell_4 (by decide) (by rw [lv_osw c1 (by decide)]; rw [lv_osw c2 (by decide)]; rw [lv_osw c3 (by decide)]; exact sw_hit c4 (by decide)) (by decide) ?_
    refine lv_iconst (v := 1) hx hb dX4_startsCell_72 (by decide) ?_
    cases hM
    exact rt_z hx hb hr hlk (by decide) hP hD hS rfl dX4_startsCell_73
  replace hM := if_f c4 hM
  by_cases c5 : o_this.2.1 = 47
  · replace hM := if_t c5 hM
    refine lv_lookup (off := 68) (tgt := 72) hx hb dX4_startsCell_4 (by decide) (by rw [lv_osw c1 (by decide)]; rw [lv_osw c2 (by decide)]; rw [lv_osw c3 (by decide)]; rw [lv_osw c4 (by decide)]; exact sw_hit c5 (by decide)) (by decide) ?_
    refine lv_iconst (v := 1) hx hb dX4_startsCell_72 (by decide) ?_
    cases hM
    exact rt_z hx hb hr hlk (by decide) hP hD hS rfl dX4_startsCell_73
  replace hM := if_f c5 hM
  by_cases c6 : o_this.2.1 = 60
  · replace hM := if_t c6 hM
    refine lv_lookup (off := 68) (tgt := 72) hx hb dX4_startsCell_4 (by decide) (by rw [lv_osw c1 (by decide)]; rw [lv_osw c2 (by decide)]; rw [lv_osw c3 (by decide)]; rw [lv_osw c4 (by decide)]; rw [lv_osw c5 (by decide)]; exact sw_hit c6 (by decide)) (by decide) ?_
    refine lv_iconst (v := 1) hx hb dX4_startsCell_72 (by decide) ?_
    cases hM
    exact rt_z hx hb hr hlk (by decide) hP hD hS rfl dX4_startsCell_73
  replace hM := if_f c6 hM
  by_cases c7 : o_this.2.1 = 62
  · replace hM := if_t c7 hM
    refine lv_lookup (off := 68) (tgt := 72) hx hb dX4_startsCell_4 (by decide) (by rw [lv_osw c1 (by decide)]; rw [lv_osw c2 (by decide)]; rw [lv_osw c3 (by decide)]; rw [lv_osw c4 (by decide)]; rw [lv_osw c5 (by decide)]; rw [lv_osw c6 (by decide)]; exact sw_hit c7 (by decide)) (by decide) ?_
    refine lv_iconst (v := 1) hx hb dX4_startsCell_72 (by decide) ?_
    cases hM
    exact rt_z hx hb hr hlk (by decide) hP hD hS rfl dX4_startsCell_73
  replace hM := if_f c7 hM
  refine lv_lookup (off := 70) (tgt := 74) hx hb dX4_startsCell_4 (by decide) (by rw [lv_osw c1 (by decide)]; rw [lv_osw c2 (by decide)]; rw [lv_osw c3 (by decide)]; rw [lv_osw c4 (by decide)]; rw [lv_osw c5 (by decide)]; rw [lv_osw c6 (by decide)]; rw [lv_osw c7 (by decide)]; rfl) (by decide) ?_
  refine lv_iconst (v := 0) hx hb dX4_startsCell_74 (by decide) ?_
  cases hM
  exact rt_z hx hb hr hlk (by decide) hP hD hS rfl dX4_startsCell_75

set_option maxHeartbeats 4000000 in
set_option maxRecDepth 100000 in
theorem c_Parser_row (l : Launch) (D : va_G) (cI : ClassId) (sd : Nat → Nat) (ad : Nat → Nat) (o_this : S_Parser) (o_tokens : S_Tokens) (o_tree : S_Tree) (a1 : Int32) (res : S_Parser × S_Tree) (hM : f_Parser_row o_this o_tokens o_tree a1 = some res) : Ctr l D cI sd yX4_row (wsM yX4_row cX4_row 4 (Option.none : Option Jvm.ClassFile.FieldType)) { frames := 4, cells := 0, slots := 0, locals := 92 } [.ref (ad 22), .int a1] (wP cI ad o_this ++ wK cI ad o_tokens ++ wT cI ad o_tree) (wP cI ad res.1 ++ wK cI ad o_tokens ++ wT cI ad res.2) none := by
  refine Ctr.of (cc := cX4_row) (maxL := 4) (own := RX4) (by decide +kernel) rfl rfl (Nat.le_of_ble_eq_true rfl) ?_
  intro p e s m below meth c A ls hx hb hr hml hown hts hlk hK hE hA hP hD hS hl
  have hl : lv_has ls 4 [(0, .ref (ad 22)), (1, .int a1)] := hl
  unfold f_Parser_row at hM
  refine lv_aload_n hx hb dX4_row_0 rfl (lv_at hl 0 rfl) ?_
  refine va_get (D := D) (ci := 4) (v := .ref (ad 14)) (C := RX4) (T := TX4) (N := 12) hx hb hts layX4 hown hK hP 0 rfl rfl 1 (by decide) (hts _ (inA q398)) (fun _ h9 => h9) rfl dX4_row_1 ?_
  refine lv_iload_n hx hb dX4_row_4 rfl (lv_at hl 1 rfl) ?_
  refine lv_bipush (v := 24) hx hb dX4_row_5 (by decide) ?_
  refine lv_aload_n hx hb dX4_row_7 rfl (lv_at hl 0 rfl) ?_
  refine va_get (D := D) (ci := 4) (v := .int o_this.2.2.1) (C := RX4) (T := TX4) (N := 12) hx hb hts layX4 hown hK hP 0 rfl rfl 4 (by decide) (hts _ (inA q401)) (fun _ h9 => h9) rfl dX4_row_8 ?_
  refine lv_iconst (v := 0) hx hb dX4_row_11 (by decide) ?_
  obtain ⟨r1, hcr1, hM⟩ := ob_use hM
  refine cl_V (As := [.int a1, .int 24, .int o_this.2.2.1, .int 0]) (rest := []) (wP cI ad o_this ++ wK cI ad o_tokens ++ wT cI ad r1.2) (.int r1.1 :: []) ⟨hx, hb, hml, hown, hts⟩ (c_Tree_add l D cI sd ad o_tree a1 24 o_this.2.2.1 0 r1 hcr1) (cwV2 hts q622 mvX3_add rfl rfl ⟨(Nat.le_of_ble_eq_true rfl), (Nat.le_of_ble_eq_true rfl)⟩) hK hE hA hP hD hS 5 (T := TX3) (N := 8) (ci := 3) rfl rfl [5, 6, 7, 8, 9, 10, 11, 12] rfl (by decide) rfl rfl rfl rfl rfl rfl hl.1 (Nat.le_of_ble_eq_true rfl) dX4_row_12 ⟨Nat.zero_le _, Nat.zero_le _⟩ (fun H locs hP hD hS => ?_)
  refine lv_istore_n (lv' := [(2, .int r1.1), (0, .ref (ad 22)), (1, .int a1)]) hx hb dX4_row_15 rfl hl (by decide) rfl (fun ls hl => ?_)
  refine lv_aload_n hx hb dX4_row_16 rfl (lv_at hl 1 rfl) ?_
  refine lv_iload_n hx hb dX4_row_17 rfl (lv_at hl 0 rfl) ?_
  obtain ⟨r2, hcr2, hM⟩ := ob_use hM
  refine cl_V (As := [.int r1.1]) (rest := []) (wP cI ad r2.1 ++ wK cI ad o_tokens ++ wT cI ad r2.2) [] ⟨hx, hb, hml, hown, hts⟩ (c_Parser_cell l D cI sd ad o_this o_tokens r1.2 r1.1 r2 hcr2) (cwV2 hts q681 mvX4_cell rfl rfl ⟨(Nat.le_of_ble_eq_true rfl), (Nat.le_of_ble_eq_true rfl)⟩) hK hE hA hP hD hS 0 (T := TX4) (N := 12) (ci := 4) rfl rfl [0, 1, 2, 3, 4, 5, 6, 7, 8, 9, 10, 11, 12] rfl (by decide) rfl rfl rfl rfl rfl rfl hl.1 (Nat.le_of_ble_eq_true rfl) dX4_row_18 ⟨Nat.zero_le _, Nat.zero_le _⟩ (fun H locs hP hD hS => ?_)
  refine lv_iconst (v := 0) hx hb dX4_row_21 (by decide) ?_
  refine lv_istore_n (lv' := [(3, .int 0), (2, .int r1.1), (0, .ref (ad 22)), (1, .int a1)]) hx hb dX4_row_22 rfl hl (by decide) rfl (fun ls hl => ?_)
  have lp_L23 : ∀ (w2_L23 : Int32) (o_tokens_L23 : S_Tokens) (n : Nat) (v3_L23 : Int32) (o_this_L23 : S_Parser) (o_tree_L23 : S_Tree) (out_L23 : S_Parser × S_Tree) (H : Heap) (locs : List Loc) (ls : Array Slot), f_Parser_row_L23 w2_L23 o_tokens_L23 n v3_L23 o_this_L23 o_tree_L23 = some out_L23 → va_P D vwCl (wP cI ad o_this_L23 ++ wK cI ad o_tokens_L23 ++ wT cI ad o_tree_L23) H → va_D A (wP cI ad o_this_L23 ++ wK cI ad o_tokens_L23 ++ wT cI ad o_tree_L23) → va_S A s.heap H locs → lv_has ls 4 [(3, .int v3_L23), (2, .int w2_L23), (0, .ref (ad 22))] → (∀ (H : Heap) (locs : List Loc) (ls : Array Slot), va_P D vwCl (wP cI ad out_L23.1 ++ wK cI ad o_tokens_L23 ++ wT cI ad out_L23.2) H → va_D A (wP cI ad out_L23.1 ++ wK cI ad o_tokens_L23 ++ wT cI ad out_L23.2) → va_S A s.heap H locs → lv_has ls 4 [(2, .int w2_L23), (0, .ref (ad 22))] → W p l e { frames := 4, cells := 0, slots := 0, locals := 92 } s m [.ref (ad 22), .int a1].toArray below meth c H locs 0 0 (MQ below (CQ D A (wP cI ad res.1 ++ wK cI ad o_tokens ++ wT cI ad res.2) none) [.ref (ad 22), .int a1].toArray s 0 0 A) (F0 m 88 ls [])) → W p l e { frames := 4, cells := 0, slots := 0, locals := 92 } s m [.ref (ad 22), .int a1].toArray below meth c H locs 0 0 (MQ below (CQ D A (wP cI ad res.1 ++ wK cI ad o_tokens ++ wT cI ad res.2) none) [.ref (ad 22), .int a1].toArray s 0 0 A) (F0 m 23 ls []) := by
    intro w2_L23 o_tokens_L23 n
    induction n with
    | zero => intro v3_L23 o_this_L23 o_tree_L23 out_L23 H locs ls hM; exact absurd (show none = some _ from hM) (by simp)
    | succ n ih_L23 =>
      intro v3_L23 o_this_L23 o_tree_L23 out_L23 H locs ls hM hP hD hS hl kx_L23
      rw [f_Parser_row_L23] at hM
      refine lv_iload_n hx hb dX4_row_23 rfl (lv_at hl 0 rfl) ?_
      refine lv_sipush (v := 8192) hx hb dX4_row_24 (by decide) ?_
      refine lv_icmp_ge (tgt := 88) hx hb dX4_row_27 (by decide) (fun c1331 => ?_) (fun c1331 => ?_)
      · replace hM := if_t c1331 hM
        cases hM
        exact kx_L23 _ _ _ hP hD hS (lv_sub hl [1, 2] rfl)
      · replace hM := if_f c1331 hM
        refine lv_aload_n hx hb dX4_row_30 rfl (lv_at hl 2 rfl) ?_
        refine va_get (D := D) (ci := 4) (v := .int o_this_L23.2.1) (C := RX4) (T := TX4) (N := 12) hx hb hts layX4 hown hK hP 0 rfl rfl 3 (by decide) (hts _ (inA q400)) (fun _ h9 => h9) rfl dX4_row_31 ?_
        refine lv_bipush (v := 124) hx hb dX4_row_34 (by decide) ?_
        refine lv_icmp_eq (tgt := 46) hx hb dX4_row_36 (by decide) (fun c1332 => ?_) (fun c1332 => ?_)
        · replace hM := if_t c1332 hM
          refine lv_aload_n hx hb dX4_row_46 rfl (lv_at hl 2 rfl) ?_
          refine va_get (D := D) (ci := 4) (v := .int o_this_L23.2.1) (C := RX4) (T := TX4) (N := 12) hx hb hts layX4 hown hK hP 0 rfl rfl 3 (by decide) (hts _ (inA q400)) (fun _ h9 => h9) rfl dX4_row_47 ?_
          refine lv_bipush (v := 124) hx hb dX4_row_50 (by decide) ?_
          refine lv_icmp_ne (tgt := 77) hx hb dX4_row_52 (by decide) (fun c1333 => ?_) (fun c1333 => ?_)
          · replace hM := if_f c1333 hM
            refine lv_aload_n hx hb dX4_row_77 rfl (lv_at hl 2 rfl) ?_
            refine lv_iload_n hx hb dX4_row_78 rfl (lv_at hl 1 rfl) ?_
            obtain ⟨r1334, hcr1334, hM⟩ := ob_use hM
            refine cl_V (As := [.int w2_L23]) (rest := []) (wP cI ad r1334.1 ++ wK cI ad o_tokens_L23 ++ wT cI ad r1334.2) [] ⟨hx, hb, hml, hown, hts⟩ (c_Parser_cell l D cI sd ad o_this_L23 o_tokens_L23 o_tree_L23 w2_L23 r1334 hcr1334) (cwV2 hts q681 mvX4_cell rfl rfl ⟨(Nat.le_of_ble_eq_true rfl), (Nat.le_of_ble_eq_true rfl)⟩) hK hE hA hP hD hS 0 (T := TX4) (N := 12) (ci := 4) rfl rfl [0, 1, 2, 3, 4, 5, 6, 7, 8, 9, 10, 11, 12] rfl (by decide) rfl rfl rfl rfl rfl rfl hl.1 (Nat.le_of_ble_eq_true rfl) dX4_row_79 ⟨Nat.zero_le _, Nat.zero_le _⟩ (fun H locs hP hD hS => ?_)
            obtain ⟨x1335, ex1335⟩ : ∃ y : Int32, y = v3_L23 + 1 := ⟨_, rfl⟩
            replace hM := nm_use ex1335 hM
            refine lv_iinc (v := x1335) (lv' := [(3, .int x1335), (2, .int w2_L23), (0, .ref (ad 22))]) hx hb dX4_row_82 hl (k := 0) rfl (by rw [ex1335]; rfl) (by decide) rfl (fun ls hl => ?_)
            refine lv_goto (tgt := 23) hx hb dX4_row_85 (by decide) ?_
            exact ih_L23 x1335 r1334.1 r1334.2 out_L23 _ _ _ hM hP hD hS (lv_sub hl [0, 1, 2] rfl) kx_L23
          · replace hM := if_t c1333 hM
            refine lv_aload_n hx hb dX4_row_55 rfl (lv_at hl 2 rfl) ?_
            refine va_get (D := D) (ci := 4) (v := .ref (ad 14)) (C := RX4) (T := TX4) (N := 12) hx hb hts layX4 hown hK hP 0 rfl rfl 1 (by decide) (hts _ (inA q398)) (fun _ h9 => h9) rfl dX4_row_56 ?_
            refine lv_iload_n hx hb dX4_row_59 rfl (lv_at hl 1 rfl) ?_
            refine lv_bipush (v := 29) hx hb dX4_row_60 (by decide) ?_
            refine lv_aload_n hx hb dX4_row_62 rfl (lv_at hl 2 rfl) ?_
            refine va_get (D := D) (ci := 4) (v := .int o_this_L23.2.2.1) (C := RX4) (T := TX4) (N := 12) hx hb hts layX4 hown hK hP 0 rfl rfl 4 (by decide) (hts _ (inA q401)) (fun _ h9 => h9) rfl dX4_row_63 ?_
            refine lv_iconst (v := 0) hx hb dX4_row_66 (by decide) ?_
            obtain ⟨r1336, hcr1336, hM⟩ := ob_use hM
            refine cl_V (As := [.int w2_L23, .int 29, .int o_this_L23.2.2.1, .int 0]) (rest := []) (wP cI ad o_this_L23 ++ wK cI ad o_tokens_L23 ++ wT cI ad r1336.2) (.int r1336.1 :: []) ⟨hx, hb, hml, hown, hts⟩ (c_Tree_add l D cI sd ad o_tree_L23 w2_L23 29 o_this_L23.2.2.1 0 r1336 hcr1336) (cwV2 hts q622 mvX3_add rfl rfl ⟨(Nat.le_of_ble_eq_true rfl), (Nat.le_of_ble_eq_true rfl)⟩) hK hE hA hP hD hS 5 (T := TX3) (N := 8) (ci := 3) rfl rfl [5, 6, 7, 8, 9, 10, 11, 12] rfl (by decide) rfl rfl rfl rfl rfl rfl hl.1 (Nat.le_of_ble_eq_true rfl) dX4_row_67 ⟨Nat.zero_le _, Nat.zero_le _⟩ (fun H locs hP hD hS => ?_)
            refine lv_pop hx hb dX4_row_70 rfl ?_
            refine lv_aload_n hx hb dX4_row_71 rfl (lv_at hl 2 rfl) ?_
            refine lv_bipush (v := 124) hx hb dX4_row_72 (by decide) ?_
            obtain ⟨r1337, hcr1337, hM⟩ := ob_use hM
            refine cl_V (As := [.int 124]) (rest := []) (wP cI ad r1337 ++ wK cI ad o_tokens_L23 ++ wT cI ad r1336.2) [] ⟨hx, hb, hml, hown, hts⟩ (c_Parser_take l D cI sd ad o_this_L23 o_tokens_L23 124 r1337 hcr1337) (cwV2 hts q614 mvX4_take rfl rfl ⟨(Nat.le_of_ble_eq_true rfl), (Nat.le_of_ble_eq_true rfl)⟩) hK hE hA hP hD hS 0 (T := TX4) (N := 12) (ci := 4) rfl rfl [0, 1, 2, 3, 4] rfl (by decide) rfl rfl rfl rfl rfl rfl hl.1 (Nat.le_of_ble_eq_true rfl) dX4_row_74 ⟨Nat.zero_le _, Nat.zero_le _⟩ (fun H locs hP hD hS => ?_)
            refine lv_aload_n hx hb dX4_row_77 rfl (lv_at hl 2 rfl) ?_
            refine lv_iload_n hx hb dX4_row_78 rfl (lv_at hl 1 rfl) ?_
            obtain ⟨r1338, hcr1338, hM⟩ := ob_use hM
            refine cl_V (As := [.int w2_L23]) (rest := []) (wP cI ad r1338.1 ++ wK cI ad o_tokens_L23 ++ wT cI ad r1338.2) [] ⟨hx, hb, hml, hown, hts⟩ (c_Parser_cell l D cI sd ad r1337 o_tokens_L23 r1336.2 w2_L23 r1338 hcr1338) (cwV2 hts q681 mvX4_cell rfl rfl ⟨(Nat.le_of_ble_eq_true rfl), (Nat.le_of_ble_eq_true rfl)⟩) hK hE hA hP hD hS 0 (T := TX4) (N := 12) (ci := 4) rfl rfl [0, 1, 2, 3, 4, 5, 6, 7, 8, 9, 10, 11, 12] rfl (by decide) rfl rfl rfl rfl rfl rfl hl.1 (Nat.le_of_ble_eq_true rfl) dX4_row_79 ⟨Nat.zero_le _, Nat.zero_le _⟩ (fun H locs hP hD hS => ?_)
            obtain ⟨x1339, ex1339⟩ : ∃ y : Int32, y = v3_L23 + 1 := ⟨_, rfl⟩
            replace hM := nm_use ex1339 hM
            refine lv_iinc (v := x1339) (lv' := [(3, .int x1339), (2, .int w2_L23), (0, .ref (ad 22))]) hx hb dX4_row_82 hl (k := 0) rfl (by rw [ex1339]; rfl) (by decide) rfl (fun ls hl => ?_)
            refine lv_goto (tgt := 23) hx hb dX4_row_85 (by decide) ?_
            exact ih_L23 x1339 r1338.1 r1338.2 out_L23 _ _ _ hM hP hD hS (lv_sub hl [0, 1, 2] rfl) kx_L23
        · replace hM := if_f c1332 hM
          refine lv_aload_n hx hb dX4_row_39 rfl (lv_at hl 2 rfl) ?_
          obtain ⟨r1340, hcr1340, hM⟩ := ob_use hM
          refine cl_V (As := []) (rest := []) (wP cI ad o_this_L23 ++ wK cI ad o_tokens_L23 ++ wT cI ad o_tree_L23) (.int r1340 :: []) ⟨hx, hb, hml, hown, hts⟩ (c_Parser_startsCell l D cI sd ad o_this_L23 r1340 hcr1340) (cwV2 hts q699 mvX4_startsCell rfl rfl ⟨(Nat.le_of_ble_eq_true rfl), (Nat.le_of_ble_eq_true rfl)⟩) hK hE hA hP hD hS 0 (T := TX4) (N := 12) (ci := 4) rfl rfl [0] rfl (by decide) rfl rfl rfl rfl rfl rfl hl.1 (Nat.le_of_ble_eq_true rfl) dX4_row_40 ⟨Nat.zero_le _, Nat.zero_le _⟩ (fun H locs hP hD hS => ?_)
          refine lv_if_eq (tgt := 88) hx hb dX4_row_43 (by decide) (fun c1341 => ?_) (fun c1341 => ?_)
          · replace hM := if_t c1341 hM
            cases hM
            exact kx_L23 _ _ _ hP hD hS (lv_sub hl [1, 2] rfl)
          · replace hM := if_f c1341 hM
            refine lv_aload_n hx hb dX4_row_46 rfl (lv_at hl 2 rfl) ?_
            refine va_get (D := D) (ci := 4) (v := .int o_this_L23.2.1) (C := RX4) (T := TX4) (N := 12) hx hb hts layX4 hown hK hP 0 rfl rfl 3 (by decide) (hts _ (inA q400)) (fun _ h9 => h9) rfl dX4_row_47 ?_
            refine lv_bipush (v := 124) hx hb dX4_row_50 (by decide) ?_
            refine lv_icmp_ne (tgt := 77) hx hb dX4_row_52 (by decide) (fun c1342 => ?_) (fun c1342 => ?_)
            · replace hM := if_f c1342 hM
              refine lv_aload_n hx hb dX4_row_77 rfl (lv_at hl 2 rfl) ?_
              refine lv_iload_n hx hb dX4_row_78 rfl (lv_at hl 1 rfl) ?_
              obtain ⟨r1343, hcr1343, hM⟩ := ob_use hM
              refine cl_V (As := [.int w2_L23]) (rest := []) (wP cI ad r1343.1 ++ wK cI ad o_tokens_L23 ++ wT cI ad r1343.2) [] ⟨hx, hb, hml, hown, hts⟩ (c_Parser_cell l D cI sd ad o_this_L23 o_tokens_L23 o_tree_L23 w2_L23 r1343 hcr1343) (cwV2 hts q681 mvX4_cell rfl rfl ⟨(Nat.le_of_ble_eq_true rfl), (Nat.le_of_ble_eq_true rfl)⟩) hK hE hA hP hD hS 0 (T := TX4) (N := 12) (ci := 4) rfl rfl [0, 1, 2, 3, 4, 5, 6, 7, 8, 9, 10, 11, 12] rfl (by decide) rfl rfl rfl rfl rfl rfl hl.1 (Nat.le_of_ble_eq_true rfl) dX4_row_79 ⟨Nat.zero_le _, Nat.zero_le _⟩ (fun H locs hP hD hS => ?_)
              obtain ⟨x1344, ex1344⟩ : ∃ y : Int32, y = v3_L23 + 1 := ⟨_, rfl⟩
              replace hM := nm_use ex1344 hM
              refine lv_iinc (v := x1344) (lv' := [(3, .int x1344), (2, .int w2_L23), (0, .ref (ad 22))]) hx hb dX4_row_82 hl (k := 0) rfl (by rw [ex1344]; rfl) (by decide) rfl (fun ls hl => ?_)
              refine lv_goto (tgt := 23) hx hb dX4_row_85 (by decide) ?_
              exact ih_L23 x1344 r1343.1 r1343.2 out_L23 _ _ _ hM hP hD hS (lv_sub hl [0, 1, 2] rfl) kx_L23
            · replace hM := if_t c1342 hM
              refine lv_aload_n hx hb dX4_row_55 rfl (lv_at hl 2 rfl) ?_
              refine va_get (D := D) (ci := 4) (v := .ref (ad 14)) (C := RX4) (T := TX4) (N := 12) hx hb hts layX4 hown hK hP 0 rfl rfl 1 (by decide) (hts _ (inA q398)) (fun _ h9 => h9) rfl dX4_row_56 ?_
              refine lv_iload_n hx hb dX4_row_59 rfl (lv_at hl 1 rfl) ?_
              refine lv_bipush (v := 29) hx hb dX4_row_60 (by decide) ?_
              refine lv_aload_n hx hb dX4_row_62 rfl (lv_at hl 2 rfl) ?_
              refine va_get (D := D) (ci := 4) (v := .int o_this_L23.2.2.1) (C := RX4) (T := TX4) (N := 12) hx hb hts layX4 hown hK hP 0 rfl rfl 4 (by decide) (hts _ (inA q401)) (fun _ h9 => h9) rfl dX4_row_63 ?_
              refine lv_iconst (v := 0) hx hb dX4_row_66 (by decide) ?_
              obtain ⟨r1345, hcr1345, hM⟩ := ob_use hM
              refine cl_V (As := [.int w2_L23, .int 29, .int o_this_L23.2.2.1, .int 0]) (rest := []) (wP cI ad o_this_L23 ++ wK cI ad o_tokens_L23 ++ wT cI ad r1345.2) (.int r1345.1 :: []) ⟨hx, hb, hml, hown, hts⟩ (c_Tree_add l D cI sd ad o_tree_L23 w2_L23 29 o_this_L23.2.2.1 0 r1345 hcr1345) (cwV2 hts q622 mvX3_add rfl rfl ⟨(Nat.le_of_ble_eq_true rfl), (Nat.le_of_ble_eq_true rfl)⟩) hK hE hA hP hD hS 5 (T := TX3) (N := 8) (ci := 3) rfl rfl [5, 6, 7, 8, 9, 10, 11, 12] rfl (by decide) rfl rfl rfl rfl rfl rfl hl.1 (Nat.le_of_ble_eq_true rfl) dX4_row_67 ⟨Nat.zero_le _, Nat.zero_le _⟩ (fun H locs hP hD hS => ?_)
              refine lv_pop hx hb dX4_row_70 rfl ?_
              refine lv_aload_n hx hb dX4_row_71 rfl (lv_at hl 2 rfl) ?_
              refine lv_bipush (v := 124) hx hb dX4_row_72 (by decide) ?_
              obtain ⟨r1346, hcr1346, hM⟩ := ob_use hM
              refine cl_V (As := [.int 124]) (rest := []) (wP cI ad r1346 ++ wK cI ad o_tokens_L23 ++ wT cI ad r1345.2) [] ⟨hx, hb, hml, hown, hts⟩ (c_Parser_take l D cI sd ad o_this_L23 o_tokens_L23 124 r1346 hcr1346) (cwV2 hts q614 mvX4_take rfl rfl ⟨(Nat.le_of_ble_eq_true rfl), (Nat.le_of_ble_eq_true rfl)⟩) hK hE hA hP hD hS 0 (T := TX4) (N := 12) (ci := 4) rfl rfl [0, 1, 2, 3, 4] rfl (by decide) rfl rfl rfl rfl rfl rfl hl.1 (Nat.le_of_ble_eq_true rfl) dX4_row_74 ⟨Nat.zero_le _, Nat.zero_le _⟩ (fun H locs hP hD hS => ?_)
              refine lv_aload_n hx hb dX4_row_77 rfl (lv_at hl 2 rfl) ?_
              refine lv_iload_n hx hb dX4_row_78 rfl (lv_at hl 1 rfl) ?_
              obtain ⟨r1347, hcr1347, hM⟩ := ob_use hM
              refine cl_V (As := [.int w2_L23]) (rest := []) (wP cI ad r1347.1 ++ wK cI ad o_tokens_L23 ++ wT cI ad r1347.2) [] ⟨hx, hb, hml, hown, hts⟩ (c_Parser_cell l D cI sd ad r1346 o_tokens_L23 r1345.2 w2_L23 r1347 hcr1347) (cwV2 hts q681 mvX4_cell rfl rfl ⟨(Nat.le_of_ble_eq_true rfl), (Nat.le_of_ble_eq_true rfl)⟩) hK hE hA hP hD hS 0 (T := TX4) (N := 12) (ci := 4) rfl rfl [0, 1, 2, 3, 4, 5, 6, 7, 8, 9, 10, 11, 12] rfl (by decide) rfl rfl rfl rfl rfl rfl hl.1 (Nat.le_of_ble_eq_true rfl) dX4_row_79 ⟨Nat.zero_le _, Nat.zero_le _⟩ (fun H locs hP hD hS => ?_)
              obtain ⟨x1348, ex1348⟩ : ∃ y : Int32, y = v3_L23 + 1 := ⟨_, rfl⟩
              replace hM := nm_use ex1348 hM
              refine lv_iinc (v := x1348) (lv' := [(3, .int x1348), (2, .int w2_L23), (0, .ref (ad 22))]) hx hb dX4_row_82 hl (k := 0) rfl (by rw [ex1348]; rfl) (by decide) rfl (fun ls hl => ?_)
              refine lv_goto (tgt := 23) hx hb dX4_row_85 (by decide) ?_
              exact ih_L23 x1348 r1347.1 r1347.2 out_L23 _ _ _ hM hP hD hS (lv_sub hl [0, 1, 2] rfl) kx_L23
  obtain ⟨r3, hcr3, hM⟩ := ob_use hM
  refine lp_L23 r1.1 o_tokens FU 0 r2.1 r2.2 r3 _ _ _ hcr3 hP hD hS (lv_sub hl [0, 1, 2] rfl) (fun H locs ls hP hD hS hl => ?_)
  refine lv_aload_n hx hb dX4_row_88 rfl (lv_at hl 1 rfl) ?_
  refine lv_bipush (v := 59) hx hb dX4_row_89 (by decide) ?_
  obtain ⟨r4, hcr4, hM⟩ := ob_use hM
  refine cl_V (As := [.int 59]) (rest := []) (wP cI ad r4 ++ wK cI ad o_tokens ++ wT cI ad r3.2) [] ⟨hx, hb, hml, hown, hts⟩ (c_Parser_take l D cI sd ad r3.1 o_tokens 59 r4 hcr4) (cwV2 hts q614 mvX4_take rfl rfl ⟨(Nat.le_of_ble_eq_true rfl), (Nat.le_of_ble_eq_true rfl)⟩) hK hE hA hP hD hS 0 (T := TX4) (N := 12) (ci := 4) rfl rfl [0, 1, 2, 3, 4] rfl (by decide) rfl rfl rfl rfl rfl rfl hl.1 (Nat.le_of_ble_eq_true rfl) dX4_row_91 ⟨Nat.zero_le _, Nat.zero_le _⟩ (fun H locs hP hD hS => ?_)
  cases hM
  exact rt_v hx hb hr hlk hP hD hS rfl dX4_row_94

set_option maxHeartbeats 4000000 in
set_option maxRecDepth 100000 in
theorem c_Parser_ladder (l : Launch) (D : va_G) (cI : ClassId) (sd : Nat → Nat) (ad : Nat → Nat) (o_this : S_Parser) (o_tokens : S_Tokens) (o_tree : S_Tree) (a1 : Int32) (res : S_Parser × S_Tree) (hM : f_Parser_ladder o_this o_tokens o_tree a1 = some res) : Ctr l D cI sd yX4_ladder (wsM yX4_ladder cX4_ladder 6 (Option.none : Option Jvm.ClassFile.FieldType)) { frames := 5, cells := 0, slots := 0, locals := 115 } [.ref (ad 22), .int a1] (wP cI ad o_this ++ wK cI ad o_tokens ++ wT cI ad o_tree) (wP cI ad res.1 ++ wK cI ad o_tokens ++ wT cI ad res.2) none := by
  refine Ctr.of (cc := cX4_ladder) (maxL := 6) (own := RX4) (by decide +kernel) rfl rfl (Nat.le_of_ble_eq_true rfl) ?_
  intro p e s m below meth c A ls hx hb hr hml hown hts hlk hK hE hA hP hD hS hl
  have hl : lv_has ls 6 [(0, .ref (ad 22)), (1, .int a1)] := hl
  unfold f_Parser_ladder at hM
  refine lv_aload_n hx hb dX4_ladder_0 rfl (lv_at hl 0 rfl) ?_
  refine va_get (D := D) (ci := 4) (v := .ref (ad 14)) (C := RX4) (T := TX4) (N := 12) hx hb hts layX4 hown hK hP 0 rfl rfl 1 (by decide) (hts _ (inA q398)) (fun _ h9 => h9) rfl dX4_ladder_1 ?_
  refine lv_iload_n hx hb dX4_ladder_4 rfl (lv_at hl 1 rfl) ?_
  refine lv_bipush (v := 22) hx hb dX4_ladder_5 (by decide) ?_
  refine lv_aload_n hx hb dX4_ladder_7 rfl (lv_at hl 0 rfl) ?_
  refine va_get (D := D) (ci := 4) (v := .int o_this.2.2.1) (C := RX4) (T := TX4) (N := 12) hx hb hts layX4 hown hK hP 0 rfl rfl 4 (by decide) (hts _ (inA q401)) (fun _ h9 => h9) rfl dX4_ladder_8 ?_
  refine lv_iconst (v := 0) hx hb dX4_ladder_11 (by decide) ?_
  obtain ⟨r1, hcr1, hM⟩ := ob_use hM
  refine cl_V (As := [.int a1, .int 22, .int o_this.2.2.1, .int 0]) (rest := []) (wP cI ad o_this ++ wK cI ad o_tokens ++ wT cI ad r1.2) (.int r1.1 :: []) ⟨hx, hb, hml, hown, hts⟩ (c_Tree_add l D cI sd ad o_tree a1 22 o_this.2.2.1 0 r1 hcr1) (cwV2 hts q622 mvX3_add rfl rfl ⟨(Nat.le_of_ble_eq_true rfl), (Nat.le_of_ble_eq_true rfl)⟩) hK hE hA hP hD hS 5 (T := TX3) (N := 8) (ci := 3) rfl rfl [5, 6, 7, 8, 9, 10, 11, 12] rfl (by decide) rfl rfl rfl rfl rfl rfl hl.1 (Nat.le_of_ble_eq_true rfl) dX4_ladder_12 ⟨Nat.zero_le _, Nat.zero_le _⟩ (fun H locs hP hD hS => ?_)
  refine lv_istore_n (lv' := [(2, .int r1.1), (0, .ref (ad 22)), (1, .int a1)]) hx hb dX4_ladder_15 rfl hl (by decide) rfl (fun ls hl => ?_)
  refine lv_aload_n hx hb dX4_ladder_16 rfl (lv_at hl 1 rfl) ?_
  refine lv_sipush (v := 293) hx hb dX4_ladder_17 (by decide) ?_
  obtain ⟨r2, hcr2, hM⟩ := ob_use hM
  refine cl_V (As := [.int 293]) (rest := []) (wP cI ad r2 ++ wK cI ad o_tokens ++ wT cI ad r1.2) [] ⟨hx, hb, hml, hown, hts⟩ (c_Parser_take l D cI sd ad o_this o_tokens 293 r2 hcr2) (cwV2 hts q614 mvX4_take rfl rfl ⟨(Nat.le_of_ble_eq_true rfl), (Nat.le_of_ble_eq_true rfl)⟩) hK hE hA hP hD hS 0 (T := TX4) (N := 12) (ci := 4) rfl rfl [0, 1, 2, 3, 4] rfl (by decide) rfl rfl rfl rfl rfl rfl hl.1 (Nat.le_of_ble_eq_true rfl) dX4_ladder_20 ⟨Nat.zero_le _, Nat.zero_le _⟩ (fun H locs hP hD hS => ?_)
  refine lv_iconst (v := 0) hx hb dX4_ladder_23 (by decide) ?_
  refine lv_istore_n (lv' := [(3, .int 0), (2, .int r1.1), (0, .ref (ad 22)), (1, .int a1)]) hx hb dX4_ladder_24 rfl hl (by decide) rfl (fun ls hl => ?_)
  have lp_L25 : ∀ (w2_L25 : Int32) (o_tokens_L25 : S_Tokens) (n : Nat) (v3_L25 : Int32) (o_this_L25 : S_Parser) (o_tree_L25 : S_Tree) (out_L25 : S_Parser × S_Tree) (H : Heap) (locs : List Loc) (ls : Array Slot), f_Parser_ladder_L25 w2_L25 o_tokens_L25 n v3_L25 o_this_L25 o_tree_L25 = some out_L25 → va_P D vwCl (wP cI ad o_this_L25 ++ wK cI ad o_tokens_L25 ++ wT cI ad o_tree_L25) H → va_D A (wP cI ad o_this_L25 ++ wK cI ad o_tokens_L25 ++ wT cI ad o_tree_L25) → va_S A s.heap H locs → lv_has ls 6 [(3, .int v3_L25), (2, .int w2_L25), (0, .ref (ad 22))] → (∀ (H : Heap) (locs : List Loc) (ls : Array Slot), va_P D vwCl (wP cI ad out_L25.1 ++ wK cI ad o_tokens_L25 ++ wT cI ad out_L25.2) H → va_D A (wP cI ad out_L25.1 ++ wK cI ad o_tokens_L25 ++ wT cI ad out_L25.2) → va_S A s.heap H locs → lv_has ls 6 [(2, .int w2_L25), (0, .ref (ad 22))] → W p l e { frames := 5, cells := 0, slots := 0, locals := 115 } s m [.ref (ad 22), .int a1].toArray below meth c H locs 0 0 (MQ below (CQ D A (wP cI ad res.1 ++ wK cI ad o_tokens ++ wT cI ad res.2) none) [.ref (ad 22), .int a1].toArray s 0 0 A) (F0 m 115 ls [])) → W p l e { frames := 5, cells := 0, slots := 0, locals := 115 } s m [.ref (ad 22), .int a1].toArray below meth c H locs 0 0 (MQ below (CQ D A (wP cI ad res.1 ++ wK cI ad o_tokens ++ wT cI ad res.2) none) [.ref (ad 22), .int a1].toArray s 0 0 A) (F0 m 25 ls []) := by
    intro w2_L25 o_tokens_L25 n
    induction n with
    | zero => intro v3_L25 o_this_L25 o_tree_L25 out_L25 H locs ls hM; exact absurd (show none = some _ from hM) (by simp)
    | succ n ih_L25 =>
      intro v3_L25 o_this_L25 o_tree_L25 out_L25 H locs ls hM hP hD hS hl kx_L25
      rw [f_Parser_ladder_L25] at hM
      refine lv_iload_n hx hb dX4_ladder_25 rfl (lv_at hl 0 rfl) ?_
      refine lv_sipush (v := 8192) hx hb dX4_ladder_26 (by decide) ?_
      refine lv_icmp_ge (tgt := 115) hx hb dX4_ladder_29 (by decide) (fun c1351 => ?_) (fun c1351 => ?_)
      · replace hM := if_t c1351 hM
        cases hM
        exact kx_L25 _ _ _ hP hD hS (lv_sub hl [1, 2] rfl)
      · replace hM := if_f c1351 hM
        refine lv_aload_n hx hb dX4_ladder_32 rfl (lv_at hl 2 rfl) ?_
        refine va_get (D := D) (ci := 4) (v := .int o_this_L25.2.1) (C := RX4) (T := TX4) (N := 12) hx hb hts layX4 hown hK hP 0 rfl rfl 3 (by decide) (hts _ (inA q400)) (fun _ h9 => h9) rfl dX4_ladder_33 ?_
        refine lv_sipush (v := 295) hx hb dX4_ladder_36 (by decide) ?_
        refine lv_icmp_ne (tgt := 115) hx hb dX4_ladder_39 (by decide) (fun c1352 => ?_) (fun c1352 => ?_)
        · replace hM := if_f c1352 hM
          cases hM
          exact kx_L25 _ _ _ hP hD hS (lv_sub hl [1, 2] rfl)
        · replace hM := if_t c1352 hM
          refine lv_aload_n hx hb dX4_ladder_42 rfl (lv_at hl 2 rfl) ?_
          refine va_get (D := D) (ci := 4) (v := .ref (ad 14)) (C := RX4) (T := TX4) (N := 12) hx hb hts layX4 hown hK hP 0 rfl rfl 1 (by decide) (hts _ (inA q398)) (fun _ h9 => h9) rfl dX4_ladder_43 ?_
          refine lv_iload_n hx hb dX4_ladder_46 rfl (lv_at hl 1 rfl) ?_
          refine lv_bipush (v := 23) hx hb dX4_ladder_47 (by decide) ?_
          refine lv_aload_n hx hb dX4_ladder_49 rfl (lv_at hl 2 rfl) ?_
          refine va_get (D := D) (ci := 4) (v := .int o_this_L25.2.2.1) (C := RX4) (T := TX4) (N := 12) hx hb hts layX4 hown hK hP 0 rfl rfl 4 (by decide) (hts _ (inA q401)) (fun _ h9 => h9) rfl dX4_ladder_50 ?_
          refine lv_iconst (v := 0) hx hb dX4_ladder_53 (by decide) ?_
          obtain ⟨r1353, hcr1353, hM⟩ := ob_use hM
          refine cl_V (As := [.int w2_L25, .int 23, .int o_this_L25.2.2.1, .int 0]) (rest := []) (wP cI ad o_this_L25 ++ wK cI ad o_tokens_L25 ++ wT cI ad r1353.2) (.int r1353.1 :: []) ⟨hx, hb, hml, hown, hts⟩ (c_Tree_add l D cI sd ad o_tree_L25 w2_L25 23 o_this_L25.2.2.1 0 r1353 hcr1353) (cwV2 hts q622 mvX3_add rfl rfl ⟨(Nat.le_of_ble_eq_true rfl), (Nat.le_of_ble_eq_true rfl)⟩) hK hE hA hP hD hS 5 (T := TX3) (N := 8) (ci := 3) rfl rfl [5, 6, 7, 8, 9, 10, 11, 12] rfl (by decide) rfl rfl rfl rfl rfl rfl hl.1 (Nat.le_of_ble_eq_true rfl) dX4_ladder_54 ⟨Nat.zero_le _, Nat.zero_le _⟩ (fun H locs hP hD hS => ?_)
          refine lv_istore (lv' := [(4, .int r1353.1), (3, .int v3_L25), (2, .int w2_L25), (0, .ref (ad 22))]) hx hb dX4_ladder_57 hl (by decide) rfl (fun ls hl => ?_)
          refine lv_aload_n hx hb dX4_ladder_59 rfl (lv_at hl 3 rfl) ?_
          refine lv_sipush (v := 295) hx hb dX4_ladder_60 (by decide) ?_
          obtain ⟨r1354, hcr1354, hM⟩ := ob_use hM
          refine cl_V (As := [.int 295]) (rest := []) (wP cI ad r1354 ++ wK cI ad o_tokens_L25 ++ wT cI ad r1353.2) [] ⟨hx, hb, hml, hown, hts⟩ (c_Parser_take l D cI sd ad o_this_L25 o_tokens_L25 295 r1354 hcr1354) (cwV2 hts q614 mvX4_take rfl rfl ⟨(Nat.le_of_ble_eq_true rfl), (Nat.le_of_ble_eq_true rfl)⟩) hK hE hA hP hD hS 0 (T := TX4) (N := 12) (ci := 4) rfl rfl [0, 1, 2, 3, 4] rfl (by decide) rfl rfl rfl rfl rfl rfl hl.1 (Nat.le_of_ble_eq_true rfl) dX4_ladder_63 ⟨Nat.zero_le _, Nat.zero_le _⟩ (fun H locs hP hD hS => ?_)
          refine lv_aload_n hx hb dX4_ladder_66 rfl (lv_at hl 3 rfl) ?_
          refine lv_iload hx hb dX4_ladder_67 (lv_at hl 0 rfl) ?_
          obtain ⟨r1355, hcr1355, hM⟩ := ob_use hM
          refine cl_V (As := [.int r1353.1]) (rest := []) (wP cI ad r1355.1 ++ wK cI ad o_tokens_L25 ++ wT cI ad r1355.2) [] ⟨hx, hb, hml, hown, hts⟩ (c_Parser_row l D cI sd ad r1354 o_tokens_L25 r1353.2 r1353.1 r1355 hcr1355) (cwV2 hts q677 mvX4_row rfl rfl ⟨(Nat.le_of_ble_eq_true rfl), (Nat.le_of_ble_eq_true rfl)⟩) hK hE hA hP hD hS 0 (T := TX4) (N := 12) (ci := 4) rfl rfl [0, 1, 2, 3, 4, 5, 6, 7, 8, 9, 10, 11, 12] rfl (by decide) rfl rfl rfl rfl rfl rfl hl.1 (Nat.le_of_ble_eq_true rfl) dX4_ladder_69 ⟨Nat.zero_le _, Nat.zero_le _⟩ (fun H locs hP hD hS => ?_)
          refine lv_iconst (v := 0) hx hb dX4_ladder_72 (by decide) ?_
          refine lv_istore (lv' := [(5, .int 0), (4, .int r1353.1), (3, .int v3_L25), (2, .int w2_L25), (0, .ref (ad 22))]) hx hb dX4_ladder_73 hl (by decide) rfl (fun ls hl => ?_)
          have lp_L75 : ∀ (w4_L75 : Int32) (w3_L75 : Int32) (w2_L75 : Int32) (o_tokens_L75 : S_Tokens) (n : Nat) (v5_L75 : Int32) (o_this_L75 : S_Parser) (o_tree_L75 : S_Tree) (out_L75 : S_Parser × S_Tree) (H : Heap) (locs : List Loc) (ls : Array Slot), f_Parser_ladder_L75 w4_L75 o_tokens_L75 n v5_L75 o_this_L75 o_tree_L75 = some out_L75 → va_P D vwCl (wP cI ad o_this_L75 ++ wK cI ad o_tokens_L75 ++ wT cI ad o_tree_L75) H → va_D A (wP cI ad o_this_L75 ++ wK cI ad o_tokens_L75 ++ wT cI ad o_tree_L75) → va_S A s.heap H locs → lv_has ls 6 [(5, .int v5_L75), (4, .int w4_L75), (3, .int w3_L75), (2, .int w2_L75), (0, .ref (ad 22))] → (∀ (H : Heap) (locs : List Loc) (ls : Array Slot), va_P D vwCl (wP cI ad out_L75.1 ++ wK cI ad o_tokens_L75 ++ wT cI ad out_L75.2) H → va_D A (wP cI ad out_L75.1 ++ wK cI ad o_tokens_L75 ++ wT cI ad out_L75.2) → va_S A s.heap H locs → lv_has ls 6 [(4, .int w4_L75), (3, .int w3_L75), (2, .int w2_L75), (0, .ref (ad 22))] → W p l e { frames := 5, cells := 0, slots := 0, locals := 115 } s m [.ref (ad 22), .int a1].toArray below meth c H locs 0 0 (MQ below (CQ D A (wP cI ad res.1 ++ wK cI ad o_tokens ++ wT cI ad res.2) none) [.ref (ad 22), .int a1].toArray s 0 0 A) (F0 m 102 ls [])) → W p l e { frames := 5, cells := 0, slots := 0, locals := 115 } s m [.ref (ad 22), .int a1].toArray below meth c H locs 0 0 (MQ below (CQ D A (wP cI ad res.1 ++ wK cI ad o_tokens ++ wT cI ad res.2) none) [.ref (ad 22), .int a1].toArray s 0 0 A) (F0 m 75 ls []) := by
            intro w4_L75 w3_L75 w2_L75 o_tokens_L75 n
            induction n with
            | zero => intro v5_L75 o_this_L75 o_tree_L75 out_L75 H locs ls hM; exact absurd (show none = some _ from hM) (by simp)
            | succ n ih_L75 =>
              intro v5_L75 o_this_L75 o_tree_L75 out_L75 H locs ls hM hP hD hS hl kx_L75
              rw [f_Parser_ladder_L75] at hM
              refine lv_iload hx hb dX4_ladder_75 (lv_at hl 0 rfl) ?_
              refine lv_sipush (v := 8192) hx hb dX4_ladder_77 (by decide) ?_
              refine lv_icmp_ge (tgt := 102) hx hb dX4_ladder_80 (by decide) (fun c1951 => ?_) (fun c1951 => ?_)
              · replace hM := if_t c1951 hM
                cases hM
                exact kx_L75 _ _ _ hP hD hS (lv_sub hl [1, 2, 3, 4] rfl)
              · replace hM := if_f c1951 hM
                refine lv_aload_n hx hb dX4_ladder_83 rfl (lv_at hl 4 rfl) ?_
                obtain ⟨r1952, hcr1952, hM⟩ := ob_use hM
                refine cl_V (As := []) (rest := []) (wP cI ad o_this_L75 ++ wK cI ad o_tokens_L75 ++ wT cI ad o_tree_L75) (.int r1952 :: []) ⟨hx, hb, hml, hown, hts⟩ (c_Parser_startsCell l D cI sd ad o_this_L75 r1952 hcr1952) (cwV2 hts q699 mvX4_startsCell rfl rfl ⟨(Nat.le_of_ble_eq_true rfl), (Nat.le_of_ble_eq_true rfl)⟩) hK hE hA hP hD hS 0 (T := TX4) (N := 12) (ci := 4) rfl rfl [0] rfl (by decide) rfl rfl rfl rfl rfl rfl hl.1 (Nat.le_of_ble_eq_true rfl) dX4_ladder_84 ⟨Nat.zero_le _, Nat.zero_le _⟩ (fun H locs hP hD hS => ?_)
                refine lv_if_eq (tgt := 102) hx hb dX4_ladder_87 (by decide) (fun c1953 => ?_) (fun c1953 => ?_)
                · replace hM := if_t c1953 hM
                  cases hM
                  exact kx_L75 _ _ _ hP hD hS (lv_sub hl [1, 2, 3, 4] rfl)
                · replace hM := if_f c1953 hM
                  refine lv_aload_n hx hb dX4_ladder_90 rfl (lv_at hl 4 rfl) ?_
                  refine lv_iload hx hb dX4_ladder_91 (lv_at hl 1 rfl) ?_
                  obtain ⟨r1954, hcr1954, hM⟩ := ob_use hM
                  refine cl_V (As := [.int w4_L75]) (rest := []) (wP cI ad r1954.1 ++ wK cI ad o_tokens_L75 ++ wT cI ad r1954.2) [] ⟨hx, hb, hml, hown, hts⟩ (c_Parser_row l D cI sd ad o_this_L75 o_tokens_L75 o_tree_L75 w4_L75 r1954 hcr1954) (cwV2 hts q677 mvX4_row rfl rfl ⟨(Nat.le_of_ble_eq_true rfl), (Nat.le_of_ble_eq_true rfl)⟩) hK hE hA hP hD hS 0 (T := TX4) (N := 12) (ci := 4) rfl rfl [0, 1, 2, 3, 4, 5, 6, 7, 8, 9, 10, 11, 12] rfl (by decide) rfl rfl rfl rfl rfl rfl hl.1 (Nat.le_of_ble_eq_true rfl) dX4_ladder_93 ⟨Nat.zero_le _, Nat.zero_le _⟩ (fun H locs hP hD hS => ?_)
                  obtain ⟨x1955, ex1955⟩ : ∃ y : Int32, y = v5_L75 + 1 := ⟨_, rfl⟩
                  replace hM := nm_use ex1955 hM
                  refine lv_iinc (v := x1955) (lv' := [(5, .int x1955), (4, .int w4_L75), (3, .int w3_L75), (2, .int w2_L75), (0, .ref (ad 22))]) hx hb dX4_ladder_96 hl (k := 0) rfl (by rw [ex1955]; rfl) (by decide) rfl (fun ls hl => ?_)
                  refine lv_goto (tgt := 75) hx hb dX4_ladder_99 (by decide) ?_
                  exact ih_L75 x1955 r1954.1 r1954.2 out_L75 _ _ _ hM hP hD hS (lv_sub hl [0, 1, 2, 3, 4] rfl) kx_L75
          obtain ⟨r1356, hcr1356, hM⟩ := ob_use hM
          refine lp_L75 r1353.1 v3_L25 w2_L25 o_tokens_L25 FU 0 r1355.1 r1355.2 r1356 _ _ _ hcr1356 hP hD hS (lv_sub hl [0, 1, 2, 3, 4] rfl) (fun H locs ls hP hD hS hl => ?_)
          refine lv_aload_n hx hb dX4_ladder_102 rfl (lv_at hl 3 rfl) ?_
          refine lv_sipush (v := 296) hx hb dX4_ladder_103 (by decide) ?_
          obtain ⟨r1357, hcr1357, hM⟩ := ob_use hM
          refine cl_V (As := [.int 296]) (rest := []) (wP cI ad r1357 ++ wK cI ad o_tokens_L25 ++ wT cI ad r1356.2) [] ⟨hx, hb, hml, hown, hts⟩ (c_Parser_take l D cI sd ad r1356.1 o_tokens_L25 296 r1357 hcr1357) (cwV2 hts q614 mvX4_take rfl rfl ⟨(Nat.le_of_ble_eq_true rfl), (Nat.le_of_ble_eq_true rfl)⟩) hK hE hA hP hD hS 0 (T := TX4) (N := 12) (ci := 4) rfl rfl [0, 1, 2, 3, 4] rfl (by decide) rfl rfl rfl rfl rfl rfl hl.1 (Nat.le_of_ble_eq_true rfl) dX4_ladder_106 ⟨Nat.zero_le _, Nat.zero_le _⟩ (fun H locs hP hD hS => ?_)
          obtain ⟨x1358, ex1358⟩ : ∃ y : Int32, y = v3_L25 + 1 := ⟨_, rfl⟩
          replace hM := nm_use ex1358 hM
          refine lv_iinc (v := x1358) (lv' := [(3, .int x1358), (4, .int r1353.1), (2, .int w2_L25), (0, .ref (ad 22))]) hx hb dX4_ladder_109 hl (k := 1) rfl (by rw [ex1358]; rfl) (by decide) rfl (fun ls hl => ?_)
          refine lv_goto (tgt := 25) hx hb dX4_ladder_112 (by decide) ?_
          exact ih_L25 x1358 r1357 r1356.2 out_L25 _ _ _ hM hP hD hS (lv_sub hl [0, 2, 3] rfl) kx_L25
  obtain ⟨r3, hcr3, hM⟩ := ob_use hM
  refine lp_L25 r1.1 o_tokens FU 0 r2 r1.2 r3 _ _ _ hcr3 hP hD hS (lv_sub hl [0, 1, 2] rfl) (fun H locs ls hP hD hS hl => ?_)
  refine lv_aload_n hx hb dX4_ladder_115 rfl (lv_at hl 1 rfl) ?_
  refine lv_sipush (v := 294) hx hb dX4_ladder_116 (by decide) ?_
  obtain ⟨r4, hcr4, hM⟩ := ob_use hM
  refine cl_V (As := [.int 294]) (rest := []) (wP cI ad r4 ++ wK cI ad o_tokens ++ wT cI ad r3.2) [] ⟨hx, hb, hml, hown, hts⟩ (c_Parser_take l D cI sd ad r3.1 o_tokens 294 r4 hcr4) (cwV2 hts q614 mvX4_take rfl rfl ⟨(Nat.le_of_ble_eq_true rfl), (Nat.le_of_ble_eq_true rfl)⟩) hK hE hA hP hD hS 0 (T := TX4) (N := 12) (ci := 4) rfl rfl [0, 1, 2, 3, 4] rfl (by decide) rfl rfl rfl rfl rfl rfl hl.1 (Nat.le_of_ble_eq_true rfl) dX4_ladder_119 ⟨Nat.zero_le _, Nat.zero_le _⟩ (fun H locs hP hD hS => ?_)
  cases hM
  exact rt_v hx hb hr hlk hP hD hS rfl dX4_ladder_122

set_option maxHeartbeats 4000000 in
set_option maxRecDepth 100000 in
theorem c_Parser_type (l : Launch) (D : va_G) (cI : ClassId) (sd : Nat → Nat) (ad : Nat → Nat) (o_this : S_Parser) (o_tokens : S_Tokens) (o_tree : S_Tree) (a1 : Int32) (res : S_Parser × S_Tree) (hM : f_Parser_type o_this o_tokens o_tree a1 = some res) : Ctr l D cI sd yX4_type (wsM yX4_type cX4_type 3 (Option.none : Option Jvm.ClassFile.FieldType)) { frames := 3, cells := 0, slots := 0, locals := 68 } [.ref (ad 22), .int a1] (wP cI ad o_this ++ wK cI ad o_tokens ++ wT cI ad o_tree) (wP cI ad res.1 ++ wK cI ad o_tokens ++ wT cI ad res.2) none := by
  refine Ctr.of (cc := cX4_type) (maxL := 3) (own := RX4) (by decide +kernel) rfl rfl (Nat.le_of_ble_eq_true rfl) ?_
  intro p e s m below meth c A ls hx hb hr hml hown hts hlk hK hE hA hP hD hS hl
  have hl : lv_has ls 3 [(0, .ref (ad 22)), (1, .int a1)] := hl
  unfold f_Parser_type at hM
  refine lv_aload_n hx hb dX4_type_0 rfl (lv_at hl 0 rfl) ?_
  refine va_get (D := D) (ci := 4) (v := .int o_this.2.1) (C := RX4) (T := TX4) (N := 12) hx hb hts layX4 hown hK hP 0 rfl rfl 3 (by decide) (hts _ (inA q400)) (fun _ h9 => h9) rfl dX4_type_1 ?_
  refine lv_iconst (v := 1) hx hb dX4_type_4 (by decide) ?_
  refine lv_icmp_ne (tgt := 35) hx hb dX4_type_5 (by decide) (fun c1 => ?_) (fun c1 => ?_)
  · replace hM := if_f c1 hM
    refine lv_aload_n hx hb dX4_type_35 rfl (lv_at hl 0 rfl) ?_
    refine va_get (D := D) (ci := 4) (v := .int o_this.2.1) (C := RX4) (T := TX4) (N := 12) hx hb hts layX4 hown hK hP 0 rfl rfl 3 (by decide) (hts _ (inA q400)) (fun _ h9 => h9) rfl dX4_type_36 ?_
    refine lv_sipush (v := 270) hx hb dX4_type_39 (by decide) ?_
    refine lv_icmp_ne (tgt := 112) hx hb dX4_type_42 (by decide) (fun c2 => ?_) (fun c2 => ?_)
    · replace hM := if_f c2 hM
      refine lv_aload_n hx hb dX4_type_112 rfl (lv_at hl 0 rfl) ?_
      refine lv_iload_n hx hb dX4_type_113 rfl (lv_at hl 1 rfl) ?_
      obtain ⟨r3, hcr3, hM⟩ := ob_use hM
      refine cl_V (As := [.int a1]) (rest := []) (wP cI ad r3.1 ++ wK cI ad o_tokens ++ wT cI ad r3.2) [] ⟨hx, hb, hml, hown, hts⟩ (c_Parser_simpleType l D cI sd ad o_this o_tokens o_tree a1 r3 hcr3) (cwV2 hts q641 mvX4_simpleType rfl rfl ⟨(Nat.le_of_ble_eq_true rfl), (Nat.le_of_ble_eq_true rfl)⟩) hK hE hA hP hD hS 0 (T := TX4) (N := 12) (ci := 4) rfl rfl [0, 1, 2, 3, 4, 5, 6, 7, 8, 9, 10, 11, 12] rfl (by decide) rfl rfl rfl rfl rfl rfl hl.1 (Nat.le_of_ble_eq_true rfl) dX4_type_114 ⟨Nat.zero_le _, Nat.zero_le _⟩ (fun H locs hP hD hS => ?_)
      cases hM
      exact rt_v hx hb hr hlk hP hD hS rfl dX4_type_117
    · replace hM := if_t c2 hM
      refine lv_aload_n hx hb dX4_type_45 rfl (lv_at hl 0 rfl) ?_
      refine va_get (D := D) (ci := 4) (v := .ref (ad 14)) (C := RX4) (T := TX4) (N := 12) hx hb hts layX4 hown hK hP 0 rfl rfl 1 (by decide) (hts _ (inA q398)) (fun _ h9 => h9) rfl dX4_type_46 ?_
      refine lv_iload_n hx hb dX4_type_49 rfl (lv_at hl 1 rfl) ?_
      refine lv_bipush (v := 9) hx hb dX4_type_50 (by decide) ?_
      refine lv_aload_n hx hb dX4_type_52 rfl (lv_at hl 0 rfl) ?_
      refine va_get (D := D) (ci := 4) (v := .int o_this.2.2.1) (C := RX4) (T := TX4) (N := 12) hx hb hts layX4 hown hK hP 0 rfl rfl 4 (by decide) (hts _ (inA q401)) (fun _ h9 => h9) rfl dX4_type_53 ?_
      refine lv_iconst (v := 0) hx hb dX4_type_56 (by decide) ?_
      obtain ⟨r4, hcr4, hM⟩ := ob_use hM
      refine cl_V (As := [.int a1, .int 9, .int o_this.2.2.1, .int 0]) (rest := []) (wP cI ad o_this ++ wK cI ad o_tokens ++ wT cI ad r4.2) (.int r4.1 :: []) ⟨hx, hb, hml, hown, hts⟩ (c_Tree_add l D cI sd ad o_tree a1 9 o_this.2.2.1 0 r4 hcr4) (cwV2 hts q622 mvX3_add rfl rfl ⟨(Nat.le_of_ble_eq_true rfl), (Nat.le_of_ble_eq_true rfl)⟩) hK hE hA hP hD hS 5 (T := TX3) (N := 8) (ci := 3) rfl rfl [5, 6, 7, 8, 9, 10, 11, 12] rfl (by decide) rfl rfl rfl rfl rfl rfl hl.1 (Nat.le_of_ble_eq_true rfl) dX4_type_57 ⟨Nat.zero_le _, Nat.zero_le _⟩ (fun H locs hP hD hS => ?_)
      refine lv_istore_n (lv' := [(2, .int r4.1), (0, .ref (ad 22)), (1, .int a1)]) hx hb dX4_type_60 rfl hl (by decide) rfl (fun ls hl => ?_)
      refine lv_aload_n hx hb dX4_type_61 rfl (lv_at hl 1 rfl) ?_
      refine lv_sipush (v := 270) hx hb dX4_type_62 (by decide) ?_
      obtain ⟨r5, hcr5, hM⟩ := ob_use hM
      refine cl_V (As := [.int 270]) (rest := []) (wP cI ad r5 ++ wK cI ad o_tokens ++ wT cI ad r4.2) [] ⟨hx, hb, hml, hown, hts⟩ (c_Parser_take l D cI sd ad o_this o_tokens 270 r5 hcr5) (cwV2 hts q614 mvX4_take rfl rfl ⟨(Nat.le_of_ble_eq_true rfl), (Nat.le_of_ble_eq_true rfl)⟩) hK hE hA hP hD hS 0 (T := TX4) (N := 12) (ci := 4) rfl rfl [0, 1, 2, 3, 4] rfl (by decide) rfl rfl rfl rfl rfl rfl hl.1 (Nat.le_of_ble_eq_true rfl) dX4_type_65 ⟨Nat.zero_le _, Nat.zero_le _⟩ (fun H locs hP hD hS => ?_)
      refine lv_aload_n hx hb dX4_type_68 rfl (lv_at hl 1 rfl) ?_
      refine lv_bipush (v := 91) hx hb dX4_type_69 (by decide) ?_
      obtain ⟨r6, hcr6, hM⟩ := ob_use hM
      refine cl_V (As := [.int 91]) (rest := []) (wP cI ad r6 ++ wK cI ad o_tokens ++ wT cI ad r4.2) [] ⟨hx, hb, hml, hown, hts⟩ (c_Parser_take l D cI sd ad r5 o_tokens 91 r6 hcr6) (cwV2 hts q614 mvX4_take rfl rfl ⟨(Nat.le_of_ble_eq_true rfl), (Nat.le_of_ble_eq_true rfl)⟩) hK hE hA hP hD hS 0 (T := TX4) (N := 12) (ci := 4) rfl rfl [0, 1, 2, 3, 4] rfl (by decide) rfl rfl rfl rfl rfl rfl hl.1 (Nat.le_of_ble_eq_true rfl) dX4_type_71 ⟨Nat.zero_le _, Nat.zero_le _⟩ (fun H locs hP hD hS => ?_)
      refine lv_aload_n hx hb dX4_type_74 rfl (lv_at hl 1 rfl) ?_
      refine lv_iload_n hx hb dX4_type_75 rfl (lv_at hl 0 rfl) ?_
      obtain ⟨r7, hcr7, hM⟩ := ob_use hM
      refine cl_V (As := [.int r4.1]) (rest := []) (wP cI ad r7.1 ++ wK cI ad o_tokens ++ wT cI ad r7.2) [] ⟨hx, hb, hml, hown, hts⟩ (c_Parser_constant l D cI sd ad r6 o_tokens r4.2 r4.1 r7 hcr7) (cwV2 hts q665 mvX4_constant rfl rfl ⟨(Nat.le_of_ble_eq_true rfl), (Nat.le_of_ble_eq_true rfl)⟩) hK hE hA hP hD hS 0 (T := TX4) (N := 12) (ci := 4) rfl rfl [0, 1, 2, 3, 4, 5, 6, 7, 8, 9, 10, 11, 12] rfl (by decide) rfl rfl rfl rfl rfl rfl hl.1 (Nat.le_of_ble_eq_true rfl) dX4_type_76 ⟨Nat.zero_le _, Nat.zero_le _⟩ (fun H locs hP hD hS => ?_)
      refine lv_aload_n hx hb dX4_type_79 rfl (lv_at hl 1 rfl) ?_
      refine lv_sipush (v := 11822) hx hb dX4_type_80 (by decide) ?_
      obtain ⟨r8, hcr8, hM⟩ := ob_use hM
      refine cl_V (As := [.int 11822]) (rest := []) (wP cI ad r8 ++ wK cI ad o_tokens ++ wT cI ad r7.2) [] ⟨hx, hb, hml, hown, hts⟩ (c_Parser_take l D cI sd ad r7.1 o_tokens 11822 r8 hcr8) (cwV2 hts q614 mvX4_take rfl rfl ⟨(Nat.le_of_ble_eq_true rfl), (Nat.le_of_ble_eq_true rfl)⟩) hK hE hA hP hD hS 0 (T := TX4) (N := 12) (ci := 4) rfl rfl [0, 1, 2, 3, 4] rfl (by decide) rfl rfl rfl rfl rfl rfl hl.1 (Nat.le_of_ble_eq_true rfl) dX4_type_83 ⟨Nat.zero_le _, Nat.zero_le _⟩ (fun H locs hP hD hS => ?_)
      refine lv_aload_n hx hb dX4_type_86 rfl (lv_at hl 1 rfl) ?_
      refine lv_iload_n hx hb dX4_type_87 rfl (lv_at hl 0 rfl) ?_
      obtain ⟨r9, hcr9, hM⟩ := ob_use hM
      refine cl_V (As := [.int r4.1]) (rest := []) (wP cI ad r9.1 ++ wK cI ad o_tokens ++ wT cI ad r9.2) [] ⟨hx, hb, hml, hown, hts⟩ (c_Parser_constant l D cI sd ad r8 o_tokens r7.2 r4.1 r9 hcr9) (cwV2 hts q665 mvX4_constant rfl rfl ⟨(Nat.le_of_ble_eq_true rfl), (Nat.le_of_ble_eq_true rfl)⟩) hK hE hA hP hD hS 0 (T := TX4) (N := 12) (ci := 4) rfl rfl [0, 1, 2, 3, 4, 5, 6, 7, 8, 9, 10, 11, 12] rfl (by decide) rfl rfl rfl rfl rfl rfl hl.1 (Nat.le_of_ble_eq_true rfl) dX4_type_88 ⟨Nat.zero_le _, Nat.zero_le _⟩ (fun H locs hP hD hS => ?_)
      refine lv_aload_n hx hb dX4_type_91 rfl (lv_at hl 1 rfl) ?_
      refine lv_bipush (v := 93) hx hb dX4_type_92 (by decide) ?_
      obtain ⟨r10, hcr10, hM⟩ := ob_use hM
      refine cl_V (As := [.int 93]) (rest := []) (wP cI ad r10 ++ wK cI ad o_tokens ++ wT cI ad r9.2) [] ⟨hx, hb, hml, hown, hts⟩ (c_Parser_take l D cI sd ad r9.1 o_tokens 93 r10 hcr10) (cwV2 hts q614 mvX4_take rfl rfl ⟨(Nat.le_of_ble_eq_true rfl), (Nat.le_of_ble_eq_true rfl)⟩) hK hE hA hP hD hS 0 (T := TX4) (N := 12) (ci := 4) rfl rfl [0, 1, 2, 3, 4] rfl (by decide) rfl rfl rfl rfl rfl rfl hl.1 (Nat.le_of_ble_eq_true rfl) dX4_type_94 ⟨Nat.zero_le _, Nat.zero_le _⟩ (fun H locs hP hD hS => ?_)
      refine lv_aload_n hx hb dX4_type_97 rfl (lv_at hl 1 rfl) ?_
      refine lv_sipush (v := 271) hx hb dX4_type_98 (by decide) ?_
      obtain ⟨r11, hcr11, hM⟩ := ob_use hM
      refine cl_V (As := [.int 271]) (rest := []) (wP cI ad r11 ++ wK cI ad o_tokens ++ wT cI ad r9.2) [] ⟨hx, hb, hml, hown, hts⟩ (c_Parser_take l D cI sd ad r10 o_tokens 271 r11 hcr11) (cwV2 hts q614 mvX4_take rfl rfl ⟨(Nat.le_of_ble_eq_true rfl), (Nat.le_of_ble_eq_true rfl)⟩) hK hE hA hP hD hS 0 (T := TX4) (N := 12) (ci := 4) rfl rfl [0, 1, 2, 3, 4] rfl (by decide) rfl rfl rfl rfl rfl rfl hl.1 (Nat.le_of_ble_eq_true rfl) dX4_type_101 ⟨Nat.zero_le _, Nat.zero_le _⟩ (fun H locs hP hD hS => ?_)
      refine lv_aload_n hx hb dX4_type_104 rfl (lv_at hl 1 rfl) ?_
      refine lv_iload_n hx hb dX4_type_105 rfl (lv_at hl 0 rfl) ?_
      obtain ⟨r12, hcr12, hM⟩ := ob_use hM
      refine cl_V (As := [.int r4.1]) (rest := []) (wP cI ad r12.1 ++ wK cI ad o_tokens ++ wT cI ad r12.2) [] ⟨hx, hb, hml, hown, hts⟩ (c_Parser_simpleType l D cI sd ad r11 o_tokens r9.2 r4.1 r12 hcr12) (cwV2 hts q641 mvX4_simpleType rfl rfl ⟨(Nat.le_of_ble_eq_true rfl), (Nat.le_of_ble_eq_true rfl)⟩) hK hE hA hP hD hS 0 (T := TX4) (N := 12) (ci := 4) rfl rfl [0, 1, 2, 3, 4, 5, 6, 7, 8, 9, 10, 11, 12] rfl (by decide) rfl rfl rfl rfl rfl rfl hl.1 (Nat.le_of_ble_eq_true rfl) dX4_type_106 ⟨Nat.zero_le _, Nat.zero_le _⟩ (fun H locs hP hD hS => ?_)
      refine lv_goto (tgt := 117) hx hb dX4_type_109 (by decide) ?_
      cases hM
      exact rt_v hx hb hr hlk hP hD hS rfl dX4_type_117
  · replace hM := if_t c1 hM
    refine lv_aload_n hx hb dX4_type_8 rfl (lv_at hl 0 rfl) ?_
    refine va_get (D := D) (ci := 4) (v := .ref (ad 14)) (C := RX4) (T := TX4) (N := 12) hx hb hts layX4 hown hK hP 0 rfl rfl 1 (by decide) (hts _ (inA q398)) (fun _ h9 => h9) rfl dX4_type_9 ?_
    refine lv_iload_n hx hb dX4_type_12 rfl (lv_at hl 1 rfl) ?_
    refine lv_bipush (v := 10) hx hb dX4_type_13 (by decide) ?_
    refine lv_aload_n hx hb dX4_type_15 rfl (lv_at hl 0 rfl) ?_
    refine va_get (D := D) (ci := 4) (v := .int o_this.2.2.1) (C := RX4) (T := TX4) (N := 12) hx hb hts layX4 hown hK hP 0 rfl rfl 4 (by decide) (hts _ (inA q401)) (fun _ h9 => h9) rfl dX4_type_16 ?_
    refine lv_aload_n hx hb dX4_type_19 rfl (lv_at hl 0 rfl) ?_
    refine va_get (D := D) (ci := 4) (v := .int o_this.2.2.2.1) (C := RX4) (T := TX4) (N := 12) hx hb hts layX4 hown hK hP 0 rfl rfl 5 (by decide) (hts _ (inA q402)) (fun _ h9 => h9) rfl dX4_type_20 ?_
    obtain ⟨r13, hcr13, hM⟩ := ob_use hM
    refine cl_V (As := [.int a1, .int 10, .int o_this.2.2.1, .int o_this.2.2.2.1]) (rest := []) (wP cI ad o_this ++ wK cI ad o_tokens ++ wT cI ad r13.2) (.int r13.1 :: []) ⟨hx, hb, hml, hown, hts⟩ (c_Tree_add l D cI sd ad o_tree a1 10 o_this.2.2.1 o_this.2.2.2.1 r13 hcr13) (cwV2 hts q622 mvX3_add rfl rfl ⟨(Nat.le_of_ble_eq_true rfl), (Nat.le_of_ble_eq_true rfl)⟩) hK hE hA hP hD hS 5 (T := TX3) (N := 8) (ci := 3) rfl rfl [5, 6, 7, 8, 9, 10, 11, 12] rfl (by decide) rfl rfl rfl rfl rfl rfl hl.1 (Nat.le_of_ble_eq_true rfl) dX4_type_23 ⟨Nat.zero_le _, Nat.zero_le _⟩ (fun H locs hP hD hS => ?_)
    refine lv_pop hx hb dX4_type_26 rfl ?_
    refine lv_aload_n hx hb dX4_type_27 rfl (lv_at hl 0 rfl) ?_
    refine lv_iconst (v := 1) hx hb dX4_type_28 (by decide) ?_
    obtain ⟨r14, hcr14, hM⟩ := ob_use hM
    refine cl_V (As := [.int 1]) (rest := []) (wP cI ad r14 ++ wK cI ad o_tokens ++ wT cI ad r13.2) [] ⟨hx, hb, hml, hown, hts⟩ (c_Parser_take l D cI sd ad o_this o_tokens 1 r14 hcr14) (cwV2 hts q614 mvX4_take rfl rfl ⟨(Nat.le_of_ble_eq_true rfl), (Nat.le_of_ble_eq_true rfl)⟩) hK hE hA hP hD hS 0 (T := TX4) (N := 12) (ci := 4) rfl rfl [0, 1, 2, 3, 4] rfl (by decide) rfl rfl rfl rfl rfl rfl hl.1 (Nat.le_of_ble_eq_true rfl) dX4_type_29 ⟨Nat.zero_le _, Nat.zero_le _⟩ (fun H locs hP hD hS => ?_)
    refine lv_goto (tgt := 117) hx hb dX4_type_32 (by decide) ?_
    cases hM
    exact rt_v hx hb hr hlk hP hD hS rfl dX4_type_117

set_option maxHeartbeats 4000000 in
set_option maxRecDepth 100000 in
theorem c_Parser_declaration (l : Launch) (D : va_G) (cI : ClassId) (sd : Nat → Nat) (ad : Nat → Nat) (o_this : S_Parser) (o_tokens : S_Tokens) (o_tree : S_Tree) (a1 : Int32) (res : S_Parser × S_Tree) (hM : f_Parser_declaration o_this o_tokens o_tree a1 = some res) : Ctr l D cI sd yX4_declaration (wsM yX4_declaration cX4_declaration 4 (Option.none : Option Jvm.ClassFile.FieldType)) { frames := 4, cells := 0, slots := 0, locals := 90 } [.ref (ad 22), .int a1] (wP cI ad o_this ++ wK cI ad o_tokens ++ wT cI ad o_tree) (wP cI ad res.1 ++ wK cI ad o_tokens ++ wT cI ad res.2) none := by
  refine Ctr.of (cc := cX4_declaration) (maxL := 4) (own := RX4) (by decide +kernel) rfl rfl (Nat.le_of_ble_eq_true rfl) ?_
  intro p e s m below meth c A ls hx hb hr hml hown hts hlk hK hE hA hP hD hS hl
  have hl : lv_has ls 4 [(0, .ref (ad 22)), (1, .int a1)] := hl
  unfold f_Parser_declaration at hM
  refine lv_aload_n hx hb dX4_declaration_0 rfl (lv_at hl 0 rfl) ?_
  refine va_get (D := D) (ci := 4) (v := .ref (ad 14)) (C := RX4) (T := TX4) (N := 12) hx hb hts layX4 hown hK hP 0 rfl rfl 1 (by decide) (hts _ (inA q398)) (fun _ h9 => h9) rfl dX4_declaration_1 ?_
  refine lv_iload_n hx hb dX4_declaration_4 rfl (lv_at hl 1 rfl) ?_
  refine lv_iconst (v := 5) hx hb dX4_declaration_5 (by decide) ?_
  refine lv_aload_n hx hb dX4_declaration_6 rfl (lv_at hl 0 rfl) ?_
  refine va_get (D := D) (ci := 4) (v := .int o_this.2.2.1) (C := RX4) (T := TX4) (N := 12) hx hb hts layX4 hown hK hP 0 rfl rfl 4 (by decide) (hts _ (inA q401)) (fun _ h9 => h9) rfl dX4_declaration_7 ?_
  refine lv_iconst (v := 0) hx hb dX4_declaration_10 (by decide) ?_
  obtain ⟨r1, hcr1, hM⟩ := ob_use hM
  refine cl_V (As := [.int a1, .int 5, .int o_this.2.2.1, .int 0]) (rest := []) (wP cI ad o_this ++ wK cI ad o_tokens ++ wT cI ad r1.2) (.int r1.1 :: []) ⟨hx, hb, hml, hown, hts⟩ (c_Tree_add l D cI sd ad o_tree a1 5 o_this.2.2.1 0 r1 hcr1) (cwV2 hts q622 mvX3_add rfl rfl ⟨(Nat.le_of_ble_eq_true rfl), (Nat.le_of_ble_eq_true rfl)⟩) hK hE hA hP hD hS 5 (T := TX3) (N := 8) (ci := 3) rfl rfl [5, 6, 7, 8, 9, 10, 11, 12] rfl (by decide) rfl rfl rfl rfl rfl rfl hl.1 (Nat.le_of_ble_eq_true rfl) dX4_declaration_11 ⟨Nat.zero_le _, Nat.zero_le _⟩ (fun H locs hP hD hS => ?_)
  refine lv_istore_n (lv' := [(2, .int r1.1), (0, .ref (ad 22)), (1, .int a1)]) hx hb dX4_declaration_14 rfl hl (by decide) rfl (fun ls hl => ?_)
  refine lv_aload_n hx hb dX4_declaration_15 rfl (lv_at hl 1 rfl) ?_
  refine lv_iload_n hx hb dX4_declaration_16 rfl (lv_at hl 0 rfl) ?_
  obtain ⟨r2, hcr2, hM⟩ := ob_use hM
  refine cl_V (As := [.int r1.1]) (rest := []) (wP cI ad r2.1 ++ wK cI ad o_tokens ++ wT cI ad r2.2) [] ⟨hx, hb, hml, hown, hts⟩ (c_Parser_nameNode l D cI sd ad o_this o_tokens r1.2 r1.1 r2 hcr2) (cwV2 hts q657 mvX4_nameNode rfl rfl ⟨(Nat.le_of_ble_eq_true rfl), (Nat.le_of_ble_eq_true rfl)⟩) hK hE hA hP hD hS 0 (T := TX4) (N := 12) (ci := 4) rfl rfl [0, 1, 2, 3, 4, 5, 6, 7, 8, 9, 10, 11, 12] rfl (by decide) rfl rfl rfl rfl rfl rfl hl.1 (Nat.le_of_ble_eq_true rfl) dX4_declaration_17 ⟨Nat.zero_le _, Nat.zero_le _⟩ (fun H locs hP hD hS => ?_)
  refine lv_iconst (v := 0) hx hb dX4_declaration_20 (by decide) ?_
  refine lv_istore_n (lv' := [(3, .int 0), (2, .int r1.1), (0, .ref (ad 22)), (1, .int a1)]) hx hb dX4_declaration_21 rfl hl (by decide) rfl (fun ls hl => ?_)
  have lp_L22 : ∀ (w2_L22 : Int32) (o_tokens_L22 : S_Tokens) (n : Nat) (v3_L22 : Int32) (o_this_L22 : S_Parser) (o_tree_L22 : S_Tree) (out_L22 : S_Parser × S_Tree) (H : Heap) (locs : List Loc) (ls : Array Slot), f_Parser_declaration_L22 w2_L22 o_tokens_L22 n v3_L22 o_this_L22 o_tree_L22 = some out_L22 → va_P D vwCl (wP cI ad o_this_L22 ++ wK cI ad o_tokens_L22 ++ wT cI ad o_tree_L22) H → va_D A (wP cI ad o_this_L22 ++ wK cI ad o_tokens_L22 ++ wT cI ad o_tree_L22) → va_S A s.heap H locs → lv_has ls 4 [(3, .int v3_L22), (2, .int w2_L22), (0, .ref (ad 22))] → (∀ (H : Heap) (locs : List Loc) (ls : Array Slot), va_P D vwCl (wP cI ad out_L22.1 ++ wK cI ad o_tokens_L22 ++ wT cI ad out_L22.2) H → va_D A (wP cI ad out_L22.1 ++ wK cI ad o_tokens_L22 ++ wT cI ad out_L22.2) → va_S A s.heap H locs → lv_has ls 4 [(2, .int w2_L22), (0, .ref (ad 22))] → W p l e { frames := 4, cells := 0, slots := 0, locals := 90 } s m [.ref (ad 22), .int a1].toArray below meth c H locs 0 0 (MQ below (CQ D A (wP cI ad res.1 ++ wK cI ad o_tokens ++ wT cI ad res.2) none) [.ref (ad 22), .int a1].toArray s 0 0 A) (F0 m 55 ls [])) → W p l e { frames := 4, cells := 0, slots := 0, locals := 90 } s m [.ref (ad 22), .int a1].toArray below meth c H locs 0 0 (MQ below (CQ D A (wP cI ad res.1 ++ wK cI ad o_tokens ++ wT cI ad res.2) none) [.ref (ad 22), .int a1].toArray s 0 0 A) (F0 m 22 ls []) := by
    intro w2_L22 o_tokens_L22 n
    induction n with
    | zero => intro v3_L22 o_this_L22 o_tree_L22 out_L22 H locs ls hM; exact absurd (show none = some _ from hM) (by simp)
    | succ n ih_L22 =>
      intro v3_L22 o_this_L22 o_tree_L22 out_L22 H locs ls hM hP hD hS hl kx_L22
      rw [f_Parser_declaration_L22] at hM
      refine lv_iload_n hx hb dX4_declaration_22 rfl (lv_at hl 0 rfl) ?_
      refine lv_sipush (v := 8192) hx hb dX4_declaration_23 (by decide) ?_
      refine lv_icmp_ge (tgt := 55) hx hb dX4_declaration_26 (by decide) (fun c1321 => ?_) (fun c1321 => ?_)
      · replace hM := if_t c1321 hM
        cases hM
        exact kx_L22 _ _ _ hP hD hS (lv_sub hl [1, 2] rfl)
      · replace hM := if_f c1321 hM
        refine lv_aload_n hx hb dX4_declaration_29 rfl (lv_at hl 2 rfl) ?_
        refine va_get (D := D) (ci := 4) (v := .int o_this_L22.2.1) (C := RX4) (T := TX4) (N := 12) hx hb hts layX4 hown hK hP 0 rfl rfl 3 (by decide) (hts _ (inA q400)) (fun _ h9 => h9) rfl dX4_declaration_30 ?_
        refine lv_bipush (v := 44) hx hb dX4_declaration_33 (by decide) ?_
        refine lv_icmp_ne (tgt := 55) hx hb dX4_declaration_35 (by decide) (fun c1322 => ?_) (fun c1322 => ?_)
        · replace hM := if_f c1322 hM
          cases hM
          exact kx_L22 _ _ _ hP hD hS (lv_sub hl [1, 2] rfl)
        · replace hM := if_t c1322 hM
          refine lv_aload_n hx hb dX4_declaration_38 rfl (lv_at hl 2 rfl) ?_
          refine lv_bipush (v := 44) hx hb dX4_declaration_39 (by decide) ?_
          obtain ⟨r1323, hcr1323, hM⟩ := ob_use hM
          refine cl_V (As := [.int 44]) (rest := []) (wP cI ad r1323 ++ wK cI ad o_tokens_L22 ++ wT cI ad o_tree_L22) [] ⟨hx, hb, hml, hown, hts⟩ (c_Parser_take l D cI sd ad o_this_L22 o_tokens_L22 44 r1323 hcr1323) (cwV2 hts q614 mvX4_take rfl rfl ⟨(Nat.le_of_ble_eq_true rfl), (Nat.le_of_ble_eq_true rfl)⟩) hK hE hA hP hD hS 0 (T := TX4) (N := 12) (ci := 4) rfl rfl [0, 1, 2, 3, 4] rfl (by decide) rfl rfl rfl rfl rfl rfl hl.1 (Nat.le_of_ble_eq_true rfl) dX4_declaration_41 ⟨Nat.zero_le _, Nat.zero_le _⟩ (fun H locs hP hD hS => ?_)
          refine lv_aload_n hx hb dX4_declaration_44 rfl (lv_at hl 2 rfl) ?_
          refine lv_iload_n hx hb dX4_declaration_45 rfl (lv_at hl 1 rfl) ?_
          obtain ⟨r1324, hcr1324, hM⟩ := ob_use hM
          refine cl_V (As := [.int w2_L22]) (rest := []) (wP cI ad r1324.1 ++ wK cI ad o_tokens_L22 ++ wT cI ad r1324.2) [] ⟨hx, hb, hml, hown, hts⟩ (c_Parser_nameNode l D cI sd ad r1323 o_tokens_L22 o_tree_L22 w2_L22 r1324 hcr1324) (cwV2 hts q657 mvX4_nameNode rfl rfl ⟨(Nat.le_of_ble_eq_true rfl), (Nat.le_of_ble_eq_true rfl)⟩) hK hE hA hP hD hS 0 (T := TX4) (N := 12) (ci := 4) rfl rfl [0, 1, 2, 3, 4, 5, 6, 7, 8, 9, 10, 11, 12] rfl (by decide) rfl rfl rfl rfl rfl rfl hl.1 (Nat.le_of_ble_eq_true rfl) dX4_declaration_46 ⟨Nat.zero_le _, Nat.zero_le _⟩ (fun H locs hP hD hS => ?_)
          obtain ⟨x1325, ex1325⟩ : ∃ y : Int32, y = v3_L22 + 1 := ⟨_, rfl⟩
          replace hM := nm_use ex1325 hM
          refine lv_iinc (v := x1325) (lv' := [(3, .int x1325), (2, .int w2_L22), (0, .ref (ad 22))]) hx hb dX4_declaration_49 hl (k := 0) rfl (by rw [ex1325]; rfl) (by decide) rfl (fun ls hl => ?_)
          refine lv_goto (tgt := 22) hx hb dX4_declaration_52 (by decide) ?_
          exact ih_L22 x1325 r1324.1 r1324.2 out_L22 _ _ _ hM hP hD hS (lv_sub hl [0, 1, 2] rfl) kx_L22
  obtain ⟨r3, hcr3, hM⟩ := ob_use hM
  refine lp_L22 r1.1 o_tokens FU 0 r2.1 r2.2 r3 _ _ _ hcr3 hP hD hS (lv_sub hl [0, 1, 2] rfl) (fun H locs ls hP hD hS hl => ?_)
  refine lv_aload_n hx hb dX4_declaration_55 rfl (lv_at hl 1 rfl) ?_
  refine va_get (D := D) (ci := 4) (v := .int r3.1.2.1) (C := RX4) (T := TX4) (N := 12) hx hb hts layX4 hown hK hP 0 rfl rfl 3 (by decide) (hts _ (inA q400)) (fun _ h9 => h9) rfl dX4_declaration_56 ?_
  refine lv_sipush (v := 266) hx hb dX4_declaration_59 (by decide) ?_
  refine lv_icmp_ne (tgt := 96) hx hb dX4_declaration_62 (by decide) (fun c4 => ?_) (fun c4 => ?_)
  · replace hM := if_f c4 hM
    refine lv_aload_n hx hb dX4_declaration_96 rfl (lv_at hl 1 rfl) ?_
    refine lv_bipush (v := 58) hx hb dX4_declaration_97 (by decide) ?_
    obtain ⟨r5, hcr5, hM⟩ := ob_use hM
    refine cl_V (As := [.int 58]) (rest := []) (wP cI ad r5 ++ wK cI ad o_tokens ++ wT cI ad r3.2) [] ⟨hx, hb, hml, hown, hts⟩ (c_Parser_take l D cI sd ad r3.1 o_tokens 58 r5 hcr5) (cwV2 hts q614 mvX4_take rfl rfl ⟨(Nat.le_of_ble_eq_true rfl), (Nat.le_of_ble_eq_true rfl)⟩) hK hE hA hP hD hS 0 (T := TX4) (N := 12) (ci := 4) rfl rfl [0, 1, 2, 3, 4] rfl (by decide) rfl rfl rfl rfl rfl rfl hl.1 (Nat.le_of_ble_eq_true rfl) dX4_declaration_99 ⟨Nat.zero_le _, Nat.zero_le _⟩ (fun H locs hP hD hS => ?_)
    refine lv_aload_n hx hb dX4_declaration_102 rfl (lv_at hl 1 rfl) ?_
    refine lv_iload_n hx hb dX4_declaration_103 rfl (lv_at hl 0 rfl) ?_
    obtain ⟨r6, hcr6, hM⟩ := ob_use hM
    refine cl_V (As := [.int r1.1]) (rest := []) (wP cI ad r6.1 ++ wK cI ad o_tokens ++ wT cI ad r6.2) [] ⟨hx, hb, hml, hown, hts⟩ (c_Parser_type l D cI sd ad r5 o_tokens r3.2 r1.1 r6 hcr6) (cwV2 hts q661 mvX4_type rfl rfl ⟨(Nat.le_of_ble_eq_true rfl), (Nat.le_of_ble_eq_true rfl)⟩) hK hE hA hP hD hS 0 (T := TX4) (N := 12) (ci := 4) rfl rfl [0, 1, 2, 3, 4, 5, 6, 7, 8, 9, 10, 11, 12] rfl (by decide) rfl rfl rfl rfl rfl rfl hl.1 (Nat.le_of_ble_eq_true rfl) dX4_declaration_104 ⟨Nat.zero_le _, Nat.zero_le _⟩ (fun H locs hP hD hS => ?_)
    refine lv_aload_n hx hb dX4_declaration_107 rfl (lv_at hl 1 rfl) ?_
    refine va_get (D := D) (ci := 4) (v := .int r6.1.2.1) (C := RX4) (T := TX4) (N := 12) hx hb hts layX4 hown hK hP 0 rfl rfl 3 (by decide) (hts _ (inA q400)) (fun _ h9 => h9) rfl dX4_declaration_108 ?_
    refine lv_sipush (v := 14909) hx hb dX4_declaration_111 (by decide) ?_
    refine lv_icmp_ne (tgt := 129) hx hb dX4_declaration_114 (by decide) (fun c7 => ?_) (fun c7 => ?_)
    · replace hM := if_f c7 hM
      refine lv_aload_n hx hb dX4_declaration_129 rfl (lv_at hl 1 rfl) ?_
      refine lv_bipush (v := 59) hx hb dX4_declaration_130 (by decide) ?_
      obtain ⟨r8, hcr8, hM⟩ := ob_use hM
      refine cl_V (As := [.int 59]) (rest := []) (wP cI ad r8 ++ wK cI ad o_tokens ++ wT cI ad r6.2) [] ⟨hx, hb, hml, hown, hts⟩ (c_Parser_take l D cI sd ad r6.1 o_tokens 59 r8 hcr8) (cwV2 hts q614 mvX4_take rfl rfl ⟨(Nat.le_of_ble_eq_true rfl), (Nat.le_of_ble_eq_true rfl)⟩) hK hE hA hP hD hS 0 (T := TX4) (N := 12) (ci := 4) rfl rfl [0, 1, 2, 3, 4] rfl (by decide) rfl rfl rfl rfl rfl rfl hl.1 (Nat.le_of_ble_eq_true rfl) dX4_declaration_132 ⟨Nat.zero_le _, Nat.zero_le _⟩ (fun H locs hP hD hS => ?_)
      cases hM
      exact rt_v hx hb hr hlk hP hD hS rfl dX4_declaration_135
    · replace hM := if_t c7 hM
      refine lv_aload_n hx hb dX4_declaration_117 rfl (lv_at hl 1 rfl) ?_
      refine lv_sipush (v := 14909) hx hb dX4_declaration_118 (by decide) ?_
      obtain ⟨r9, hcr9, hM⟩ := ob_use hM
      refine cl_V (As := [.int 14909]) (rest := []) (wP cI ad r9 ++ wK cI ad o_tokens ++ wT cI ad r6.2) [] ⟨hx, hb, hml, hown, hts⟩ (c_Parser_take l D cI sd ad r6.1 o_tokens 14909 r9 hcr9) (cwV2 hts q614 mvX4_take rfl rfl ⟨(Nat.le_of_ble_eq_true rfl), (Nat.le_of_ble_eq_true rfl)⟩) hK hE hA hP hD hS 0 (T := TX4) (N := 12) (ci := 4) rfl rfl [0, 1, 2, 3, 4] rfl (by decide) rfl rfl rfl rfl rfl rfl hl.1 (Nat.le_of_ble_eq_true rfl) dX4_declaration_121 ⟨Nat.zero_le _, Nat.zero_le _⟩ (fun H locs hP hD hS => ?_)
      refine lv_aload_n hx hb dX4_declaration_124 rfl (lv_at hl 1 rfl) ?_
      refine lv_iload_n hx hb dX4_declaration_125 rfl (lv_at hl 0 rfl) ?_
      obtain ⟨r10, hcr10, hM⟩ := ob_use hM
      refine cl_V (As := [.int r1.1]) (rest := []) (wP cI ad r10.1 ++ wK cI ad o_tokens ++ wT cI ad r10.2) [] ⟨hx, hb, hml, hown, hts⟩ (c_Parser_constant l D cI sd ad r9 o_tokens r6.2 r1.1 r10 hcr10) (cwV2 hts q665 mvX4_constant rfl rfl ⟨(Nat.le_of_ble_eq_true rfl), (Nat.le_of_ble_eq_true rfl)⟩) hK hE hA hP hD hS 0 (T := TX4) (N := 12) (ci := 4) rfl rfl [0, 1, 2, 3, 4, 5, 6, 7, 8, 9, 10, 11, 12] rfl (by decide) rfl rfl rfl rfl rfl rfl hl.1 (Nat.le_of_ble_eq_true rfl) dX4_declaration_126 ⟨Nat.zero_le _, Nat.zero_le _⟩ (fun H locs hP hD hS => ?_)
      refine lv_aload_n hx hb dX4_declaration_129 rfl (lv_at hl 1 rfl) ?_
      refine lv_bipush (v := 59) hx hb dX4_declaration_130 (by decide) ?_
      obtain ⟨r11, hcr11, hM⟩ := ob_use hM
      refine cl_V (As := [.int 59]) (rest := []) (wP cI ad r11 ++ wK cI ad o_tokens ++ wT cI ad r10.2) [] ⟨hx, hb, hml, hown, hts⟩ (c_Parser_take l D cI sd ad r10.1 o_tokens 59 r11 hcr11) (cwV2 hts q614 mvX4_take rfl rfl ⟨(Nat.le_of_ble_eq_true rfl), (Nat.le_of_ble_eq_true rfl)⟩) hK hE hA hP hD hS 0 (T := TX4) (N := 12) (ci := 4) rfl rfl [0, 1, 2, 3, 4] rfl (by decide) rfl rfl rfl rfl rfl rfl hl.1 (Nat.le_of_ble_eq_true rfl) dX4_declaration_132 ⟨Nat.zero_le _, Nat.zero_le _⟩ (fun H locs hP hD hS => ?_)
      cases hM
      exact rt_v hx hb hr hlk hP hD hS rfl dX4_declaration_135
  · replace hM := if_t c4 hM
    refine lv_aload_n hx hb dX4_declaration_65 rfl (lv_at hl 1 rfl) ?_
    refine lv_sipush (v := 266) hx hb dX4_declaration_66 (by decide) ?_
    obtain ⟨r12, hcr12, hM⟩ := ob_use hM
    refine cl_V (As := [.int 266]) (rest := []) (wP cI ad r12 ++ wK cI ad o_tokens ++ wT cI ad r3.2) [] ⟨hx, hb, hml, hown, hts⟩ (c_Parser_take l D cI sd ad r3.1 o_tokens 266 r12 hcr12) (cwV2 hts q614 mvX4_take rfl rfl ⟨(Nat.le_of_ble_eq_true rfl), (Nat.le_of_ble_eq_true rfl)⟩) hK hE hA hP hD hS 0 (T := TX4) (N := 12) (ci := 4) rfl rfl [0, 1, 2, 3, 4] rfl (by decide) rfl rfl rfl rfl rfl rfl hl.1 (Nat.le_of_ble_eq_true rfl) dX4_declaration_69 ⟨Nat.zero_le _, Nat.zero_le _⟩ (fun H locs hP hD hS => ?_)
    refine lv_aload_n hx hb dX4_declaration_72 rfl (lv_at hl 1 rfl) ?_
    refine va_get (D := D) (ci := 4) (v := .ref (ad 14)) (C := RX4) (T := TX4) (N := 12) hx hb hts layX4 hown hK hP 0 rfl rfl 1 (by decide) (hts _ (inA q398)) (fun _ h9 => h9) rfl dX4_declaration_73 ?_
    refine lv_iload_n hx hb dX4_declaration_76 rfl (lv_at hl 0 rfl) ?_
    refine lv_bipush (v := 7) hx hb dX4_declaration_77 (by decide) ?_
    refine lv_aload_n hx hb dX4_declaration_79 rfl (lv_at hl 1 rfl) ?_
    refine va_get (D := D) (ci := 4) (v := .int r12.2.2.1) (C := RX4) (T := TX4) (N := 12) hx hb hts layX4 hown hK hP 0 rfl rfl 4 (by decide) (hts _ (inA q401)) (fun _ h9 => h9) rfl dX4_declaration_80 ?_
    refine lv_aload_n hx hb dX4_declaration_83 rfl (lv_at hl 1 rfl) ?_
    refine va_get (D := D) (ci := 4) (v := .int r12.2.2.2.1) (C := RX4) (T := TX4) (N := 12) hx hb hts layX4 hown hK hP 0 rfl rfl 5 (by decide) (hts _ (inA q402)) (fun _ h9 => h9) rfl dX4_declaration_84 ?_
    obtain ⟨r13, hcr13, hM⟩ := ob_use hM
    refine cl_V (As := [.int r1.1, .int 7, .int r12.2.2.1, .int r12.2.2.2.1]) (rest := []) (wP cI ad r12 ++ wK cI ad o_tokens ++ wT cI ad r13.2) (.int r13.1 :: []) ⟨hx, hb, hml, hown, hts⟩ (c_Tree_add l D cI sd ad r3.2 r1.1 7 r12.2.2.1 r12.2.2.2.1 r13 hcr13) (cwV2 hts q622 mvX3_add rfl rfl ⟨(Nat.le_of_ble_eq_true rfl), (Nat.le_of_ble_eq_true rfl)⟩) hK hE hA hP hD hS 5 (T := TX3) (N := 8) (ci := 3) rfl rfl [5, 6, 7, 8, 9, 10, 11, 12] rfl (by decide) rfl rfl rfl rfl rfl rfl hl.1 (Nat.le_of_ble_eq_true rfl) dX4_declaration_87 ⟨Nat.zero_le _, Nat.zero_le _⟩ (fun H locs hP hD hS => ?_)
    refine lv_pop hx hb dX4_declaration_90 rfl ?_
    refine lv_aload_n hx hb dX4_declaration_91 rfl (lv_at hl 1 rfl) ?_
    refine lv_iconst (v := 3) hx hb dX4_declaration_92 (by decide) ?_
    obtain ⟨r14, hcr14, hM⟩ := ob_use hM
    refine cl_V (As := [.int 3]) (rest := []) (wP cI ad r14 ++ wK cI ad o_tokens ++ wT cI ad r13.2) [] ⟨hx, hb, hml, hown, hts⟩ (c_Parser_take l D cI sd ad r12 o_tokens 3 r14 hcr14) (cwV2 hts q614 mvX4_take rfl rfl ⟨(Nat.le_of_ble_eq_true rfl), (Nat.le_of_ble_eq_true rfl)⟩) hK hE hA hP hD hS 0 (T := TX4) (N := 12) (ci := 4) rfl rfl [0, 1, 2, 3, 4] rfl (by decide) rfl rfl rfl rfl rfl rfl hl.1 (Nat.le_of_ble_eq_true rfl) dX4_declaration_93 ⟨Nat.zero_le _, Nat.zero_le _⟩ (fun H locs hP hD hS => ?_)
    refine lv_aload_n hx hb dX4_declaration_96 rfl (lv_at hl 1 rfl) ?_
    refine lv_bipush (v := 58) hx hb dX4_declaration_97 (by decide) ?_
    obtain ⟨r15, hcr15, hM⟩ := ob_use hM
    refine cl_V (As := [.int 58]) (rest := []) (wP cI ad r15 ++ wK cI ad o_tokens ++ wT cI ad r13.2) [] ⟨hx, hb, hml, hown, hts⟩ (c_Parser_take l D cI sd ad r14 o_tokens 58 r15 hcr15) (cwV2 hts q614 mvX4_take rfl rfl ⟨(Nat.le_of_ble_eq_true rfl), (Nat.le_of_ble_eq_true rfl)⟩) hK hE hA hP hD hS 0 (T := TX4) (N := 12) (ci := 4) rfl rfl [0, 1, 2, 3, 4] rfl (by decide) rfl rfl rfl rfl rfl rfl hl.1 (Nat.le_of_ble_eq_true rfl) dX4_declaration_99 ⟨Nat.zero_le _, Nat.zero_le _⟩ (fun H locs hP hD hS => ?_)
    refine lv_aload_n hx hb dX4_declaration_102 rfl (lv_at hl 1 rfl) ?_
    refine lv_iload_n hx hb dX4_declaration_103 rfl (lv_at hl 0 rfl) ?_
    obtain ⟨r16, hcr16, hM⟩ := ob_use hM
    refine cl_V (As := [.int r1.1]) (rest := []) (wP cI ad r16.1 ++ wK cI ad o_tokens ++ wT cI ad r16.2) [] ⟨hx, hb, hml, hown, hts⟩ (c_Parser_type l D cI sd ad r15 o_tokens r13.2 r1.1 r16 hcr16) (cwV2 hts q661 mvX4_type rfl rfl ⟨(Nat.le_of_ble_eq_true rfl), (Nat.le_of_ble_eq_true rfl)⟩) hK hE hA hP hD hS 0 (T := TX4) (N := 12) (ci := 4) rfl rfl [0, 1, 2, 3, 4, 5, 6, 7, 8, 9, 10, 11, 12] rfl (by decide) rfl rfl rfl rfl rfl rfl hl.1 (Nat.le_of_ble_eq_true rfl) dX4_declaration_104 ⟨Nat.zero_le _, Nat.zero_le _⟩ (fun H locs hP hD hS => ?_)
    refine lv_aload_n hx hb dX4_declaration_107 rfl (lv_at hl 1 rfl) ?_
    refine va_get (D := D) (ci := 4) (v := .int r16.1.2.1) (C := RX4) (T := TX4) (N := 12) hx hb hts layX4 hown hK hP 0 rfl rfl 3 (by decide) (hts _ (inA q400)) (fun _ h9 => h9) rfl dX4_declaration_108 ?_
    refine lv_sipush (v := 14909) hx hb dX4_declaration_111 (by decide) ?_
    refine lv_icmp_ne (tgt := 129) hx hb dX4_declaration_114 (by decide) (fun c17 => ?_) (fun c17 => ?_)
    · replace hM := if_f c17 hM
      refine lv_aload_n hx hb dX4_declaration_129 rfl (lv_at hl 1 rfl) ?_
      refine lv_bipush (v := 59) hx hb dX4_declaration_130 (by decide) ?_
      obtain ⟨r18, hcr18, hM⟩ := ob_use hM
      refine cl_V (As := [.int 59]) (rest := []) (wP cI ad r18 ++ wK cI ad o_tokens ++ wT cI ad r16.2) [] ⟨hx, hb, hml, hown, hts⟩ (c_Parser_take l D cI sd ad r16.1 o_tokens 59 r18 hcr18) (cwV2 hts q614 mvX4_take rfl rfl ⟨(Nat.le_of_ble_eq_true rfl), (Nat.le_of_ble_eq_true rfl)⟩) hK hE hA hP hD hS 0 (T := TX4) (N := 12) (ci := 4) rfl rfl [0, 1, 2, 3, 4] rfl (by decide) rfl rfl rfl rfl rfl rfl hl.1 (Nat.le_of_ble_eq_true rfl) dX4_declaration_132 ⟨Nat.zero_le _, Nat.zero_le _⟩ (fun H locs hP hD hS => ?_)
      cases hM
      exact rt_v hx hb hr hlk hP hD hS rfl dX4_declaration_135
    · replace hM := if_t c17 hM
      refine lv_aload_n hx hb dX4_declaration_117 rfl (lv_at hl 1 rfl) ?_
      refine lv_sipush (v := 14909) hx hb dX4_declaration_118 (by decide) ?_
      obtain ⟨r19, hcr19, hM⟩ := ob_use hM
      refine cl_V (As := [.int 14909]) (rest := []) (wP cI ad r19 ++ wK cI ad o_tokens ++ wT cI ad r16.2) [] ⟨hx, hb, hml, hown, hts⟩ (c_Parser_take l D cI sd ad r16.1 o_tokens 14909 r19 hcr19) (cwV2 hts q614 mvX4_take rfl rfl ⟨(Nat.le_of_ble_eq_true rfl), (Nat.le_of_ble_eq_true rfl)⟩) hK hE hA hP hD hS 0 (T := TX4) (N := 12) (ci := 4) rfl rfl [0, 1, 2, 3, 4] rfl (by decide) rfl rfl rfl rfl rfl rfl hl.1 (Nat.le_of_ble_eq_true rfl) dX4_declaration_121 ⟨Nat.zero_le _, Nat.zero_le _⟩ (fun H locs hP hD hS => ?_)
      refine lv_aload_n hx hb dX4_declaration_124 rfl (lv_at hl 1 rfl) ?_
      refine lv_iload_n hx hb dX4_declaration_125 rfl (lv_at hl 0 rfl) ?_
      obtain ⟨r20, hcr20, hM⟩ := ob_use hM
      refine cl_V (As := [.int r1.1]) (rest := []) (wP cI ad r20.1 ++ wK cI ad o_tokens ++ wT cI ad r20.2) [] ⟨hx, hb, hml, hown, hts⟩ (c_Parser_constant l D cI sd ad r19 o_tokens r16.2 r1.1 r20 hcr20) (cwV2 hts q665 mvX4_constant rfl rfl ⟨(Nat.le_of_ble_eq_true rfl), (Nat.le_of_ble_eq_true rfl)⟩) hK hE hA hP hD hS 0 (T := TX4) (N := 12) (ci := 4) rfl rfl [0, 1, 2, 3, 4, 5, 6, 7, 8, 9, 10, 11, 12] rfl (by decide) rfl rfl rfl rfl rfl rfl hl.1 (Nat.le_of_ble_eq_true rfl) dX4_declaration_126 ⟨Nat.zero_le _, Nat.zero_le _⟩ (fun H locs hP hD hS => ?_)
      refine lv_aload_n hx hb dX4_declaration_129 rfl (lv_at hl 1 rfl) ?_
      refine lv_bipush (v := 59) hx hb dX4_declaration_130 (by decide) ?_
      obtain ⟨r21, hcr21, hM⟩ := ob_use hM
      refine cl_V (As := [.int 59]) (rest := []) (wP cI ad r21 ++ wK cI ad o_tokens ++ wT cI ad r20.2) [] ⟨hx, hb, hml, hown, hts⟩ (c_Parser_take l D cI sd ad r20.1 o_tokens 59 r21 hcr21) (cwV2 hts q614 mvX4_take rfl rfl ⟨(Nat.le_of_ble_eq_true rfl), (Nat.le_of_ble_eq_true rfl)⟩) hK hE hA hP hD hS 0 (T := TX4) (N := 12) (ci := 4) rfl rfl [0, 1, 2, 3, 4] rfl (by decide) rfl rfl rfl rfl rfl rfl hl.1 (Nat.le_of_ble_eq_true rfl) dX4_declaration_132 ⟨Nat.zero_le _, Nat.zero_le _⟩ (fun H locs hP hD hS => ?_)
      cases hM
      exact rt_v hx hb hr hlk hP hD hS rfl dX4_declaration_135

set_option maxHeartbeats 4000000 in
set_option maxRecDepth 100000 in
theorem c_Parser_startsSection (l : Launch) (D : va_G) (cI : ClassId) (sd : Nat → Nat) (ad : Nat → Nat) (o_this : S_Parser) (res : Int32) (hM : f_Parser_startsSection o_this = some res) : Ctr l D cI sd yX4_startsSection (wsM yX4_startsSection cX4_startsSection 1 (Option.some Jvm.ClassFile.FieldType.boolean)) { frames := 0, cells := 0, slots := 0, locals := 0 } [.ref (ad 22)] (wP cI ad o_this) (wP cI ad o_this) (some (.int res)) := by
  refine Ctr.of (cc := cX4_startsSection) (maxL := 1) (own := RX4) (by decide +kernel) rfl rfl (Nat.le_of_ble_eq_true rfl) ?_
  intro p e s m below meth c A ls hx hb hr hml hown hts hlk hK hE hA hP hD hS hl
  have hl : lv_has ls 1 [(0, .ref (ad 22))] := hl
  unfold f_Parser_startsSection at hM
  refine lv_aload_n hx hb dX4_startsSection_0 rfl (lv_at hl 0 rfl) ?_
  refine va_get (D := D) (ci := 4) (v := .int o_this.2.1) (C := RX4) (T := TX4) (N := 12) hx hb hts layX4 hown hK hP 0 rfl rfl 3 (by decide) (hts _ (inA q400)) (fun _ h9 => h9) rfl dX4_startsSection_1 ?_
  refine lv_sipush (v := 262) hx hb dX4_startsSection_4 (by decide) ?_
  refine lv_icmp_eq (tgt := 30) hx hb dX4_startsSection_7 (by decide) (fun c1 => ?_) (fun c1 => ?_)
  · replace hM := if_t c1 hM
    refine lv_iconst (v := 1) hx hb dX4_startsSection_30 (by decide) ?_
    refine lv_goto (tgt := 35) hx hb dX4_startsSection_31 (by decide) ?_
    cases hM
    exact rt_z hx hb hr hlk (by decide) hP hD hS rfl dX4_startsSection_35
  · replace hM := if_f c1 hM
    refine lv_aload_n hx hb dX4_startsSection_10 rfl (lv_at hl 0 rfl) ?_
    refine va_get (D := D) (ci := 4) (v := .int o_this.2.1) (C := RX4) (T := TX4) (N := 12) hx hb hts layX4 hown hK hP 0 rfl rfl 3 (by decide) (hts _ (inA q400)) (fun _ h9 => h9) rfl dX4_startsSection_11 ?_
    refine lv_sipush (v := 263) hx hb dX4_startsSection_14 (by decide) ?_
    refine lv_icmp_eq (tgt := 30) hx hb dX4_startsSection_17 (by decide) (fun c2 => ?_) (fun c2 => ?_)
    · replace hM := if_t c2 hM
      refine lv_iconst (v := 1) hx hb dX4_startsSection_30 (by decide) ?_
      refine lv_goto (tgt := 35) hx hb dX4_startsSection_31 (by decide) ?_
      cases hM
      exact rt_z hx hb hr hlk (by decide) hP hD hS rfl dX4_startsSection_35
    · replace hM := if_f c2 hM
      refine lv_aload_n hx hb dX4_startsSection_20 rfl (lv_at hl 0 rfl) ?_
      refine va_get (D := D) (ci := 4) (v := .int o_this.2.1) (C := RX4) (T := TX4) (N := 12) hx hb hts layX4 hown hK hP 0 rfl rfl 3 (by decide) (hts _ (inA q400)) (fun _ h9 => h9) rfl dX4_startsSection_21 ?_
      refine lv_sipush (v := 264) hx hb dX4_startsSection_24 (by decide) ?_
      refine lv_icmp_ne (tgt := 34) hx hb dX4_startsSection_27 (by decide) (fun c3 => ?_) (fun c3 => ?_)
      · replace hM := if_f c3 hM
        refine lv_iconst (v := 0) hx hb dX4_startsSection_34 (by decide) ?_
        cases hM
        exact rt_z hx hb hr hlk (by decide) hP hD hS rfl dX4_startsSection_35
      · replace hM := if_t c3 hM
        refine lv_iconst (v := 1) hx hb dX4_startsSection_30 (by decide) ?_
        refine lv_goto (tgt := 35) hx hb dX4_startsSection_31 (by decide) ?_
        cases hM
        exact rt_z hx hb hr hlk (by decide) hP hD hS rfl dX4_startsSection_35

set_option maxHeartbeats 4000000 in
set_option maxRecDepth 100000 in
theorem c_Parser_sections (l : Launch) (D : va_G) (cI : ClassId) (sd : Nat → Nat) (ad : Nat → Nat) (o_this : S_Parser) (o_tokens : S_Tokens) (o_tree : S_Tree) (a1 : Int32) (res : S_Parser × S_Tree) (hM : f_Parser_sections o_this o_tokens o_tree a1 = some res) : Ctr l D cI sd yX4_sections (wsM yX4_sections cX4_sections 5 (Option.none : Option Jvm.ClassFile.FieldType)) { frames := 5, cells := 0, slots := 0, locals := 113 } [.ref (ad 22), .int a1] (wP cI ad o_this ++ wK cI ad o_tokens ++ wT cI ad o_tree) (wP cI ad res.1 ++ wK cI ad o_tokens ++ wT cI ad res.2) none := by
  refine Ctr.of (cc := cX4_sections) (maxL := 5) (own := RX4) (by decide +kernel) rfl rfl (Nat.le_of_ble_eq_true rfl) ?_
  intro p e s m below meth c A ls hx hb hr hml hown hts hlk hK hE hA hP hD hS hl
  have hl : lv_has ls 5 [(0, .ref (ad 22)), (1, .int a1)] := hl
  unfold f_Parser_sections at hM
  refine lv_iconst (v := 0) hx hb dX4_sections_0 (by decide) ?_
  refine lv_istore_n (lv' := [(2, .int 0), (0, .ref (ad 22)), (1, .int a1)]) hx hb dX4_sections_1 rfl hl (by decide) rfl (fun ls hl => ?_)
  have lp_L2 : ∀ (w1_L2 : Int32) (o_tokens_L2 : S_Tokens) (n : Nat) (v2_L2 : Int32) (o_this_L2 : S_Parser) (o_tree_L2 : S_Tree) (out_L2 : S_Parser × S_Tree) (H : Heap) (locs : List Loc) (ls : Array Slot), f_Parser_sections_L2 w1_L2 o_tokens_L2 n v2_L2 o_this_L2 o_tree_L2 = some out_L2 → va_P D vwCl (wP cI ad o_this_L2 ++ wK cI ad o_tokens_L2 ++ wT cI ad o_tree_L2) H → va_D A (wP cI ad o_this_L2 ++ wK cI ad o_tokens_L2 ++ wT cI ad o_tree_L2) → va_S A s.heap H locs → lv_has ls 5 [(2, .int v2_L2), (0, .ref (ad 22)), (1, .int w1_L2)] → (∀ (H : Heap) (locs : List Loc) (ls : Array Slot), va_P D vwCl (wP cI ad out_L2.1 ++ wK cI ad o_tokens_L2 ++ wT cI ad out_L2.2) H → va_D A (wP cI ad out_L2.1 ++ wK cI ad o_tokens_L2 ++ wT cI ad out_L2.2) → va_S A s.heap H locs → lv_has ls 5 [(0, .ref (ad 22)), (1, .int w1_L2)] → W p l e { frames := 5, cells := 0, slots := 0, locals := 113 } s m [.ref (ad 22), .int a1].toArray below meth c H locs 0 0 (MQ below (CQ D A (wP cI ad res.1 ++ wK cI ad o_tokens ++ wT cI ad res.2) none) [.ref (ad 22), .int a1].toArray s 0 0 A) (F0 m 89 ls [])) → W p l e { frames := 5, cells := 0, slots := 0, locals := 113 } s m [.ref (ad 22), .int a1].toArray below meth c H locs 0 0 (MQ below (CQ D A (wP cI ad res.1 ++ wK cI ad o_tokens ++ wT cI ad res.2) none) [.ref (ad 22), .int a1].toArray s 0 0 A) (F0 m 2 ls []) := by
    intro w1_L2 o_tokens_L2 n
    induction n with
    | zero => intro v2_L2 o_this_L2 o_tree_L2 out_L2 H locs ls hM; exact absurd (show none = some _ from hM) (by simp)
    | succ n ih_L2 =>
      intro v2_L2 o_this_L2 o_tree_L2 out_L2 H locs ls hM hP hD hS hl kx_L2
      rw [f_Parser_sections_L2] at hM
      refine lv_iload_n hx hb dX4_sections_2 rfl (lv_at hl 0 rfl) ?_
      refine lv_sipush (v := 8192) hx hb dX4_sections_3 (by decide) ?_
      refine lv_icmp_ge (tgt := 89) hx hb dX4_sections_6 (by decide) (fun c1121 => ?_) (fun c1121 => ?_)
      · replace hM := if_t c1121 hM
        cases hM
        exact kx_L2 _ _ _ hP hD hS (lv_sub hl [1, 2] rfl)
      · replace hM := if_f c1121 hM
        refine lv_aload_n hx hb dX4_sections_9 rfl (lv_at hl 1 rfl) ?_
        obtain ⟨r1122, hcr1122, hM⟩ := ob_use hM
        refine cl_V (As := []) (rest := []) (wP cI ad o_this_L2 ++ wK cI ad o_tokens_L2 ++ wT cI ad o_tree_L2) (.int r1122 :: []) ⟨hx, hb, hml, hown, hts⟩ (c_Parser_startsSection l D cI sd ad o_this_L2 r1122 hcr1122) (cwV2 hts q649 mvX4_startsSection rfl rfl ⟨(Nat.le_of_ble_eq_true rfl), (Nat.le_of_ble_eq_true rfl)⟩) hK hE hA hP hD hS 0 (T := TX4) (N := 12) (ci := 4) rfl rfl [0] rfl (by decide) rfl rfl rfl rfl rfl rfl hl.1 (Nat.le_of_ble_eq_true rfl) dX4_sections_10 ⟨Nat.zero_le _, Nat.zero_le _⟩ (fun H locs hP hD hS => ?_)
        refine lv_if_eq (tgt := 89) hx hb dX4_sections_13 (by decide) (fun c1123 => ?_) (fun c1123 => ?_)
        · replace hM := if_t c1123 hM
          cases hM
          exact kx_L2 _ _ _ hP hD hS (lv_sub hl [1, 2] rfl)
        · replace hM := if_f c1123 hM
          refine lv_aload_n hx hb dX4_sections_16 rfl (lv_at hl 1 rfl) ?_
          refine va_get (D := D) (ci := 4) (v := .ref (ad 14)) (C := RX4) (T := TX4) (N := 12) hx hb hts layX4 hown hK hP 0 rfl rfl 1 (by decide) (hts _ (inA q398)) (fun _ h9 => h9) rfl dX4_sections_17 ?_
          refine lv_iload_n hx hb dX4_sections_20 rfl (lv_at hl 2 rfl) ?_
          refine lv_iconst (v := 4) hx hb dX4_sections_21 (by decide) ?_
          refine lv_aload_n hx hb dX4_sections_22 rfl (lv_at hl 1 rfl) ?_
          refine va_get (D := D) (ci := 4) (v := .int o_this_L2.2.2.1) (C := RX4) (T := TX4) (N := 12) hx hb hts layX4 hown hK hP 0 rfl rfl 4 (by decide) (hts _ (inA q401)) (fun _ h9 => h9) rfl dX4_sections_23 ?_
          refine lv_aload_n hx hb dX4_sections_26 rfl (lv_at hl 1 rfl) ?_
          refine va_get (D := D) (ci := 4) (v := .int o_this_L2.2.1) (C := RX4) (T := TX4) (N := 12) hx hb hts layX4 hown hK hP 0 rfl rfl 3 (by decide) (hts _ (inA q400)) (fun _ h9 => h9) rfl dX4_sections_27 ?_
          refine lv_sipush (v := 262) hx hb dX4_sections_30 (by decide) ?_
          refine lv_isub hx hb dX4_sections_33 ?_
          obtain ⟨r1124, hcr1124, hM⟩ := ob_use hM
          refine cl_V (As := [.int w1_L2, .int 4, .int o_this_L2.2.2.1, .int (o_this_L2.2.1 - 262)]) (rest := []) (wP cI ad o_this_L2 ++ wK cI ad o_tokens_L2 ++ wT cI ad r1124.2) (.int r1124.1 :: []) ⟨hx, hb, hml, hown, hts⟩ (c_Tree_add l D cI sd ad o_tree_L2 w1_L2 4 o_this_L2.2.2.1 (o_this_L2.2.1 - 262) r1124 hcr1124) (cwV2 hts q622 mvX3_add rfl rfl ⟨(Nat.le_of_ble_eq_true rfl), (Nat.le_of_ble_eq_true rfl)⟩) hK hE hA hP hD hS 5 (T := TX3) (N := 8) (ci := 3) rfl rfl [5, 6, 7, 8, 9, 10, 11, 12] rfl (by decide) rfl rfl rfl rfl rfl rfl hl.1 (Nat.le_of_ble_eq_true rfl) dX4_sections_34 ⟨Nat.zero_le _, Nat.zero_le _⟩ (fun H locs hP hD hS => ?_)
          refine lv_istore_n (lv' := [(3, .int r1124.1), (2, .int v2_L2), (0, .ref (ad 22)), (1, .int w1_L2)]) hx hb dX4_sections_37 rfl hl (by decide) rfl (fun ls hl => ?_)
          refine lv_aload_n hx hb dX4_sections_38 rfl (lv_at hl 2 rfl) ?_
          refine lv_aload_n hx hb dX4_sections_39 rfl (lv_at hl 2 rfl) ?_
          refine va_get (D := D) (ci := 4) (v := .int o_this_L2.2.1) (C := RX4) (T := TX4) (N := 12) hx hb hts layX4 hown hK hP 0 rfl rfl 3 (by decide) (hts _ (inA q400)) (fun _ h9 => h9) rfl dX4_sections_40 ?_
          obtain ⟨r1125, hcr1125, hM⟩ := ob_use hM
          refine cl_V (As := [.int o_this_L2.2.1]) (rest := []) (wP cI ad r1125 ++ wK cI ad o_tokens_L2 ++ wT cI ad r1124.2) [] ⟨hx, hb, hml, hown, hts⟩ (c_Parser_take l D cI sd ad o_this_L2 o_tokens_L2 o_this_L2.2.1 r1125 hcr1125) (cwV2 hts q614 mvX4_take rfl rfl ⟨(Nat.le_of_ble_eq_true rfl), (Nat.le_of_ble_eq_true rfl)⟩) hK hE hA hP hD hS 0 (T := TX4) (N := 12) (ci := 4) rfl rfl [0, 1, 2, 3, 4] rfl (by decide) rfl rfl rfl rfl rfl rfl hl.1 (Nat.le_of_ble_eq_true rfl) dX4_sections_43 ⟨Nat.zero_le _, Nat.zero_le _⟩ (fun H locs hP hD hS => ?_)
          refine lv_iconst (v := 0) hx hb dX4_sections_46 (by decide) ?_
          refine lv_istore (lv' := [(4, .int 0), (3, .int r1124.1), (2, .int v2_L2), (0, .ref (ad 22)), (1, .int w1_L2)]) hx hb dX4_sections_47 hl (by decide) rfl (fun ls hl => ?_)
          have lp_L49 : ∀ (w3_L49 : Int32) (w2_L49 : Int32) (w1_L49 : Int32) (o_tokens_L49 : S_Tokens) (n : Nat) (v4_L49 : Int32) (o_this_L49 : S_Parser) (o_tree_L49 : S_Tree) (out_L49 : S_Parser × S_Tree) (H : Heap) (locs : List Loc) (ls : Array Slot), f_Parser_sections_L49 w3_L49 o_tokens_L49 n v4_L49 o_this_L49 o_tree_L49 = some out_L49 → va_P D vwCl (wP cI ad o_this_L49 ++ wK cI ad o_tokens_L49 ++ wT cI ad o_tree_L49) H → va_D A (wP cI ad o_this_L49 ++ wK cI ad o_tokens_L49 ++ wT cI ad o_tree_L49) → va_S A s.heap H locs → lv_has ls 5 [(4, .int v4_L49), (3, .int w3_L49), (2, .int w2_L49), (0, .ref (ad 22)), (1, .int w1_L49)] → (∀ (H : Heap) (locs : List Loc) (ls : Array Slot), va_P D vwCl (wP cI ad out_L49.1 ++ wK cI ad o_tokens_L49 ++ wT cI ad out_L49.2) H → va_D A (wP cI ad out_L49.1 ++ wK cI ad o_tokens_L49 ++ wT cI ad out_L49.2) → va_S A s.heap H locs → lv_has ls 5 [(3, .int w3_L49), (2, .int w2_L49), (0, .ref (ad 22)), (1, .int w1_L49)] → W p l e { frames := 5, cells := 0, slots := 0, locals := 113 } s m [.ref (ad 22), .int a1].toArray below meth c H locs 0 0 (MQ below (CQ D A (wP cI ad res.1 ++ wK cI ad o_tokens ++ wT cI ad res.2) none) [.ref (ad 22), .int a1].toArray s 0 0 A) (F0 m 76 ls [])) → W p l e { frames := 5, cells := 0, slots := 0, locals := 113 } s m [.ref (ad 22), .int a1].toArray below meth c H locs 0 0 (MQ below (CQ D A (wP cI ad res.1 ++ wK cI ad o_tokens ++ wT cI ad res.2) none) [.ref (ad 22), .int a1].toArray s 0 0 A) (F0 m 49 ls []) := by
            intro w3_L49 w2_L49 w1_L49 o_tokens_L49 n
            induction n with
            | zero => intro v4_L49 o_this_L49 o_tree_L49 out_L49 H locs ls hM; exact absurd (show none = some _ from hM) (by simp)
            | succ n ih_L49 =>
              intro v4_L49 o_this_L49 o_tree_L49 out_L49 H locs ls hM hP hD hS hl kx_L49
              rw [f_Parser_sections_L49] at hM
              refine lv_iload hx hb dX4_sections_49 (lv_at hl 0 rfl) ?_
              refine lv_sipush (v := 8192) hx hb dX4_sections_51 (by decide) ?_
              refine lv_icmp_ge (tgt := 76) hx hb dX4_sections_54 (by decide) (fun c1691 => ?_) (fun c1691 => ?_)
              · replace hM := if_t c1691 hM
                cases hM
                exact kx_L49 _ _ _ hP hD hS (lv_sub hl [1, 2, 3, 4] rfl)
              · replace hM := if_f c1691 hM
                refine lv_aload_n hx hb dX4_sections_57 rfl (lv_at hl 3 rfl) ?_
                refine va_get (D := D) (ci := 4) (v := .int o_this_L49.2.1) (C := RX4) (T := TX4) (N := 12) hx hb hts layX4 hown hK hP 0 rfl rfl 3 (by decide) (hts _ (inA q400)) (fun _ h9 => h9) rfl dX4_sections_58 ?_
                refine lv_iconst (v := 1) hx hb dX4_sections_61 (by decide) ?_
                refine lv_icmp_ne (tgt := 76) hx hb dX4_sections_62 (by decide) (fun c1692 => ?_) (fun c1692 => ?_)
                · replace hM := if_f c1692 hM
                  cases hM
                  exact kx_L49 _ _ _ hP hD hS (lv_sub hl [1, 2, 3, 4] rfl)
                · replace hM := if_t c1692 hM
                  refine lv_aload_n hx hb dX4_sections_65 rfl (lv_at hl 3 rfl) ?_
                  refine lv_iload_n hx hb dX4_sections_66 rfl (lv_at hl 1 rfl) ?_
                  obtain ⟨r1693, hcr1693, hM⟩ := ob_use hM
                  refine cl_V (As := [.int w3_L49]) (rest := []) (wP cI ad r1693.1 ++ wK cI ad o_tokens_L49 ++ wT cI ad r1693.2) [] ⟨hx, hb, hml, hown, hts⟩ (c_Parser_declaration l D cI sd ad o_this_L49 o_tokens_L49 o_tree_L49 w3_L49 r1693 hcr1693) (cwV2 hts q653 mvX4_declaration rfl rfl ⟨(Nat.le_of_ble_eq_true rfl), (Nat.le_of_ble_eq_true rfl)⟩) hK hE hA hP hD hS 0 (T := TX4) (N := 12) (ci := 4) rfl rfl [0, 1, 2, 3, 4, 5, 6, 7, 8, 9, 10, 11, 12] rfl (by decide) rfl rfl rfl rfl rfl rfl hl.1 (Nat.le_of_ble_eq_true rfl) dX4_sections_67 ⟨Nat.zero_le _, Nat.zero_le _⟩ (fun H locs hP hD hS => ?_)
                  obtain ⟨x1694, ex1694⟩ : ∃ y : Int32, y = v4_L49 + 1 := ⟨_, rfl⟩
                  replace hM := nm_use ex1694 hM
                  refine lv_iinc (v := x1694) (lv' := [(4, .int x1694), (3, .int w3_L49), (2, .int w2_L49), (0, .ref (ad 22)), (1, .int w1_L49)]) hx hb dX4_sections_70 hl (k := 0) rfl (by rw [ex1694]; rfl) (by decide) rfl (fun ls hl => ?_)
                  refine lv_goto (tgt := 49) hx hb dX4_sections_73 (by decide) ?_
                  exact ih_L49 x1694 r1693.1 r1693.2 out_L49 _ _ _ hM hP hD hS (lv_sub hl [0, 1, 2, 3, 4] rfl) kx_L49
          obtain ⟨r1126, hcr1126, hM⟩ := ob_use hM
          refine lp_L49 r1124.1 v2_L2 w1_L2 o_tokens_L2 FU 0 r1125 r1124.2 r1126 _ _ _ hcr1126 hP hD hS (lv_sub hl [0, 1, 2, 3, 4] rfl) (fun H locs ls hP hD hS hl => ?_)
          refine lv_aload_n hx hb dX4_sections_76 rfl (lv_at hl 2 rfl) ?_
          refine lv_sipush (v := 265) hx hb dX4_sections_77 (by decide) ?_
          obtain ⟨r1127, hcr1127, hM⟩ := ob_use hM
          refine cl_V (As := [.int 265]) (rest := []) (wP cI ad r1127 ++ wK cI ad o_tokens_L2 ++ wT cI ad r1126.2) [] ⟨hx, hb, hml, hown, hts⟩ (c_Parser_take l D cI sd ad r1126.1 o_tokens_L2 265 r1127 hcr1127) (cwV2 hts q614 mvX4_take rfl rfl ⟨(Nat.le_of_ble_eq_true rfl), (Nat.le_of_ble_eq_true rfl)⟩) hK hE hA hP hD hS 0 (T := TX4) (N := 12) (ci := 4) rfl rfl [0, 1, 2, 3, 4] rfl (by decide) rfl rfl rfl rfl rfl rfl hl.1 (Nat.le_of_ble_eq_true rfl) dX4_sections_80 ⟨Nat.zero_le _, Nat.zero_le _⟩ (fun H locs hP hD hS => ?_)
          obtain ⟨x1128, ex1128⟩ : ∃ y : Int32, y = v2_L2 + 1 := ⟨_, rfl⟩
          replace hM := nm_use ex1128 hM
          refine lv_iinc (v := x1128) (lv' := [(2, .int x1128), (3, .int r1124.1), (0, .ref (ad 22)), (1, .int w1_L2)]) hx hb dX4_sections_83 hl (k := 1) rfl (by rw [ex1128]; rfl) (by decide) rfl (fun ls hl => ?_)
          refine lv_goto (tgt := 2) hx hb dX4_sections_86 (by decide) ?_
          exact ih_L2 x1128 r1127 r1126.2 out_L2 _ _ _ hM hP hD hS (lv_sub hl [0, 2, 3] rfl) kx_L2
  obtain ⟨r1, hcr1, hM⟩ := ob_use hM
  refine lp_L2 a1 o_tokens FU 0 o_this o_tree r1 _ _ _ hcr1 hP hD hS (lv_sub hl [0, 1, 2] rfl) (fun H locs ls hP hD hS hl => ?_)
  cases hM
  exact rt_v hx hb hr hlk hP hD hS rfl dX4_sections_89

set_option maxHeartbeats 4000000 in
set_option maxRecDepth 100000 in
theorem c_Parser_startsBlock (l : Launch) (D : va_G) (cI : ClassId) (sd : Nat → Nat) (ad : Nat → Nat) (o_this : S_Parser) (res : Int32) (hM : f_Parser_startsBlock o_this = some res) : Ctr l D cI sd yX4_startsBlock (wsM yX4_startsBlock cX4_startsBlock 1 (Option.some Jvm.ClassFile.FieldType.boolean)) { frames := 0, cells := 0, slots := 0, locals := 0 } [.ref (ad 22)] (wP cI ad o_this) (wP cI ad o_this) (some (.int res)) := by
  refine Ctr.of (cc := cX4_startsBlock) (maxL := 1) (own := RX4) (by decide +kernel) rfl rfl (Nat.le_of_ble_eq_true rfl) ?_
  intro p e s m below meth c A ls hx hb hr hml hown hts hlk hK hE hA hP hD hS hl
  have hl : lv_has ls 1 [(0, .ref (ad 22))] := hl
  unfold f_Parser_startsBlock at hM
  refine lv_aload_n hx hb dX4_startsBlock_0 rfl (lv_at hl 0 rfl) ?_
  refine va_get (D := D) (ci := 4) (v := .int o_this.2.1) (C := RX4) (T := TX4) (N := 12) hx hb hts layX4 hown hK hP 0 rfl rfl 3 (by decide) (hts _ (inA q400)) (fun _ h9 => h9) rfl dX4_startsBlock_1 ?_
  refine lv_sipush (v := 256) hx hb dX4_startsBlock_4 (by decide) ?_
  refine lv_icmp_eq (tgt := 30) hx hb dX4_startsBlock_7 (by decide) (fun c1 => ?_) (fun c1 => ?_)
  · replace hM := if_t c1 hM
    refine lv_iconst (v := 1) hx hb dX4_startsBlock_30 (by decide) ?_
    refine lv_goto (tgt := 35) hx hb dX4_startsBlock_31 (by decide) ?_
    cases hM
    exact rt_z hx hb hr hlk (by decide) hP hD hS rfl dX4_startsBlock_35
  · replace hM := if_f c1 hM
    refine lv_aload_n hx hb dX4_startsBlock_10 rfl (lv_at hl 0 rfl) ?_
    refine va_get (D := D) (ci := 4) (v := .int o_this.2.1) (C := RX4) (T := TX4) (N := 12) hx hb hts layX4 hown hK hP 0 rfl rfl 3 (by decide) (hts _ (inA q400)) (fun _ h9 => h9) rfl dX4_startsBlock_11 ?_
    refine lv_sipush (v := 258) hx hb dX4_startsBlock_14 (by decide) ?_
    refine lv_icmp_eq (tgt := 30) hx hb dX4_startsBlock_17 (by decide) (fun c2 => ?_) (fun c2 => ?_)
    · replace hM := if_t c2 hM
      refine lv_iconst (v := 1) hx hb dX4_startsBlock_30 (by decide) ?_
      refine lv_goto (tgt := 35) hx hb dX4_startsBlock_31 (by decide) ?_
      cases hM
      exact rt_z hx hb hr hlk (by decide) hP hD hS rfl dX4_startsBlock_35
    · replace hM := if_f c2 hM
      refine lv_aload_n hx hb dX4_startsBlock_20 rfl (lv_at hl 0 rfl) ?_
      refine va_get (D := D) (ci := 4) (v := .int o_this.2.1) (C := RX4) (T := TX4) (N := 12) hx hb hts layX4 hown hK hP 0 rfl rfl 3 (by decide) (hts _ (inA q400)) (fun _ h9 => h9) rfl dX4_startsBlock_21 ?_
      refine lv_sipush (v := 260) hx hb dX4_startsBlock_24 (by decide) ?_
      refine lv_icmp_ne (tgt := 34) hx hb dX4_startsBlock_27 (by decide) (fun c3 => ?_) (fun c3 => ?_)
      · replace hM := if_f c3 hM
        refine lv_iconst (v := 0) hx hb dX4_startsBlock_34 (by decide) ?_
        cases hM
        exact rt_z hx hb hr hlk (by decide) hP hD hS rfl dX4_startsBlock_35
      · replace hM := if_t c3 hM
        refine lv_iconst (v := 1) hx hb dX4_startsBlock_30 (by decide) ?_
        refine lv_goto (tgt := 35) hx hb dX4_startsBlock_31 (by decide) ?_
        cases hM
        exact rt_z hx hb hr hlk (by decide) hP hD hS rfl dX4_startsBlock_35

set_option maxHeartbeats 4000000 in
set_option maxRecDepth 100000 in
theorem c_Parser_tellFault (l : Launch) (D : va_G) (cI : ClassId) (sd : Nat → Nat) (ad : Nat → Nat) (o_this : S_Parser) (o_tokens : S_Tokens) (res : S_Parser) (hM : f_Parser_tellFault o_this o_tokens = some res) : Ctr l D cI sd yX4_tellFault (wsM yX4_tellFault cX4_tellFault 2 (Option.none : Option Jvm.ClassFile.FieldType)) { frames := 1, cells := 0, slots := 0, locals := 21 } [.ref (ad 22)] (wP cI ad o_this ++ wK cI ad o_tokens) (wP cI ad res ++ wK cI ad o_tokens) none := by
  refine Ctr.of (cc := cX4_tellFault) (maxL := 2) (own := RX4) (by decide +kernel) rfl rfl (Nat.le_of_ble_eq_true rfl) ?_
  intro p e s m below meth c A ls hx hb hr hml hown hts hlk hK hE hA hP hD hS hl
  have hl : lv_has ls 2 [(0, .ref (ad 22))] := hl
  unfold f_Parser_tellFault at hM
  refine lv_aload_n hx hb dX4_tellFault_0 rfl (lv_at hl 0 rfl) ?_
  refine va_get (D := D) (ci := 4) (v := .ref (ad 10)) (C := RX4) (T := TX4) (N := 12) hx hb hts layX4 hown hK hP 0 rfl rfl 0 (by decide) (hts _ (inA q397)) (fun _ h9 => h9) rfl dX4_tellFault_1 ?_
  refine lv_aload_n hx hb dX4_tellFault_4 rfl (lv_at hl 0 rfl) ?_
  refine va_get (D := D) (ci := 4) (v := .int o_this.1) (C := RX4) (T := TX4) (N := 12) hx hb hts layX4 hown hK hP 0 rfl rfl 2 (by decide) (hts _ (inA q399)) (fun _ h9 => h9) rfl dX4_tellFault_5 ?_
  obtain ⟨r1, hcr1, hM⟩ := ob_use hM
  refine cl_V (As := [.int o_this.1]) (rest := []) (wP cI ad o_this ++ wK cI ad o_tokens) (.int r1 :: []) ⟨hx, hb, hml, hown, hts⟩ (c_Tokens_kind l D cI sd ad o_tokens o_this.1 r1 hcr1) (cwV2 hts q797 mvX2_kind rfl rfl ⟨(Nat.le_of_ble_eq_true rfl), (Nat.le_of_ble_eq_true rfl)⟩) hK hE hA hP hD hS 1 (T := TX2) (N := 7) (ci := 2) rfl rfl [1, 2, 3, 4] rfl (by decide) rfl rfl rfl rfl rfl rfl hl.1 (Nat.le_of_ble_eq_true rfl) dX4_tellFault_8 ⟨Nat.zero_le _, Nat.zero_le _⟩ (fun H locs hP hD hS => ?_)
  refine lv_istore_n (lv' := [(1, .int r1), (0, .ref (ad 22))]) hx hb dX4_tellFault_11 rfl hl (by decide) rfl (fun ls hl => ?_)
  refine lv_iload_n hx hb dX4_tellFault_12 rfl (lv_at hl 0 rfl) ?_
  refine lv_bipush (v := 6) hx hb dX4_tellFault_13 (by decide) ?_
  refine lv_icmp_ne (tgt := 26) hx hb dX4_tellFault_15 (by decide) (fun c2 => ?_) (fun c2 => ?_)
  · replace hM := if_f c2 hM
    refine lv_iload_n hx hb dX4_tellFault_26 rfl (lv_at hl 0 rfl) ?_
    refine lv_iconst (v := 5) hx hb dX4_tellFault_27 (by decide) ?_
    refine lv_icmp_ne (tgt := 49) hx hb dX4_tellFault_28 (by decide) (fun c3 => ?_) (fun c3 => ?_)
    · replace hM := if_f c3 hM
      refine lv_aload_n hx hb dX4_tellFault_49 rfl (lv_at hl 1 rfl) ?_
      refine lv_aload_n hx hb dX4_tellFault_50 rfl (lv_at hl 1 rfl) ?_
      refine va_get (D := D) (ci := 4) (v := .int o_this.2.2.2.2.2.2.2.1) (C := RX4) (T := TX4) (N := 12) hx hb hts layX4 hown hK hP 0 rfl rfl 9 (by decide) (hts _ (inA q406)) (fun _ h9 => h9) rfl dX4_tellFault_51 ?_
      refine lv_if_eq (tgt := 62) hx hb dX4_tellFault_54 (by decide) (fun c4 => ?_) (fun c4 => ?_)
      · replace hM := if_t c4 hM
        refine lv_bipush (v := 6) hx hb dX4_tellFault_62 (by decide) ?_
        refine va_put (D := D) (ci := 4) (v := .int 6) (ty := .int) (C := RX4) (T := TX4) (N := 12) hx hb hts layX4 tyX4 tyX4_ok nmX4 hown hK hP hD hS 0 rfl rfl 10 (by decide) (hts _ (inA q407)) (fun _ h9 => h9) rfl (by decide +kernel) rfl rfl (Nat.le_of_ble_eq_true rfl) dX4_tellFault_64 (fun H locs hP hD hS => ?_)
        have hP : va_P D vwCl (wP cI ad (o_this.1, o_this.2.1, o_this.2.2.1, o_this.2.2.2.1, o_this.2.2.2.2.1, o_this.2.2.2.2.2.1, o_this.2.2.2.2.2.2.1, o_this.2.2.2.2.2.2.2.1, 6, o_this.2.2.2.2.2.2.2.2.2) ++ wK cI ad o_tokens) H := hP
        have hD : va_D A (wP cI ad (o_this.1, o_this.2.1, o_this.2.2.1, o_this.2.2.2.1, o_this.2.2.2.2.1, o_this.2.2.2.2.2.1, o_this.2.2.2.2.2.2.1, o_this.2.2.2.2.2.2.2.1, 6, o_this.2.2.2.2.2.2.2.2.2) ++ wK cI ad o_tokens) := hD
        refine lv_aload_n hx hb dX4_tellFault_67 rfl (lv_at hl 1 rfl) ?_
        refine lv_aload_n hx hb dX4_tellFault_68 rfl (lv_at hl 1 rfl) ?_
        refine va_get (D := D) (ci := 4) (v := .ref (ad 10)) (C := RX4) (T := TX4) (N := 12) hx hb hts layX4 hown hK hP 0 rfl rfl 0 (by decide) (hts _ (inA q397)) (fun _ h9 => h9) rfl dX4_tellFault_69 ?_
        refine lv_aload_n hx hb dX4_tellFault_72 rfl (lv_at hl 1 rfl) ?_
        refine va_get (D := D) (ci := 4) (v := .int o_this.1) (C := RX4) (T := TX4) (N := 12) hx hb hts layX4 hown hK hP 0 rfl rfl 2 (by decide) (hts _ (inA q399)) (fun _ h9 => h9) rfl dX4_tellFault_73 ?_
        obtain ⟨r5, hcr5, hM⟩ := ob_use hM
        refine cl_V (As := [.int o_this.1]) (rest := [.ref (ad 22)]) (wP cI ad (o_this.1, o_this.2.1, o_this.2.2.1, o_this.2.2.2.1, o_this.2.2.2.2.1, o_this.2.2.2.2.2.1, o_this.2.2.2.2.2.2.1, o_this.2.2.2.2.2.2.2.1, 6, o_this.2.2.2.2.2.2.2.2.2) ++ wK cI ad o_tokens) (.int r5 :: [.ref (ad 22)]) ⟨hx, hb, hml, hown, hts⟩ (c_Tokens_place l D cI sd ad o_tokens o_this.1 r5 hcr5) (cwV2 hts q802 mvX2_place rfl rfl ⟨(Nat.le_of_ble_eq_true rfl), (Nat.le_of_ble_eq_true rfl)⟩) hK hE hA hP hD hS 1 (T := TX2) (N := 7) (ci := 2) rfl rfl [1, 2, 3, 4] rfl (by decide) rfl rfl rfl rfl rfl rfl hl.1 (Nat.le_of_ble_eq_true rfl) dX4_tellFault_76 ⟨Nat.zero_le _, Nat.zero_le _⟩ (fun H locs hP hD hS => ?_)
        refine va_put (D := D) (ci := 4) (v := .int r5) (ty := .int) (C := RX4) (T := TX4) (N := 12) hx hb hts layX4 tyX4 tyX4_ok nmX4 hown hK hP hD hS 0 rfl rfl 11 (by decide) (hts _ (inA q409)) (fun _ h9 => h9) rfl (by decide +kernel) rfl rfl (Nat.le_of_ble_eq_true rfl) dX4_tellFault_79 (fun H locs hP hD hS => ?_)
        have hP : va_P D vwCl (wP cI ad (o_this.1, o_this.2.1, o_this.2.2.1, o_this.2.2.2.1, o_this.2.2.2.2.1, o_this.2.2.2.2.2.1, o_this.2.2.2.2.2.2.1, o_this.2.2.2.2.2.2.2.1, 6, r5) ++ wK cI ad o_tokens) H := hP
        have hD : va_D A (wP cI ad (o_this.1, o_this.2.1, o_this.2.2.1, o_this.2.2.2.1, o_this.2.2.2.2.1, o_this.2.2.2.2.2.1, o_this.2.2.2.2.2.2.1, o_this.2.2.2.2.2.2.2.1, 6, r5) ++ wK cI ad o_tokens) := hD
        cases hM
        exact rt_v hx hb hr hlk hP hD hS rfl dX4_tellFault_82
      · replace hM := if_f c4 hM
        refine lv_bipush (v := 7) hx hb dX4_tellFault_57 (by decide) ?_
        refine lv_goto (tgt := 64) hx hb dX4_tellFault_59 (by decide) ?_
        refine va_put (D := D) (ci := 4) (v := .int 7) (ty := .int) (C := RX4) (T := TX4) (N := 12) hx hb hts layX4 tyX4 tyX4_ok nmX4 hown hK hP hD hS 0 rfl rfl 10 (by decide) (hts _ (inA q407)) (fun _ h9 => h9) rfl (by decide +kernel) rfl rfl (Nat.le_of_ble_eq_true rfl) dX4_tellFault_64 (fun H locs hP hD hS => ?_)
        have hP : va_P D vwCl (wP cI ad (o_this.1, o_this.2.1, o_this.2.2.1, o_this.2.2.2.1, o_this.2.2.2.2.1, o_this.2.2.2.2.2.1, o_this.2.2.2.2.2.2.1, o_this.2.2.2.2.2.2.2.1, 7, o_this.2.2.2.2.2.2.2.2.2) ++ wK cI ad o_tokens) H := hP
        have hD : va_D A (wP cI ad (o_this.1, o_this.2.1, o_this.2.2.1, o_this.2.2.2.1, o_this.2.2.2.2.1, o_this.2.2.2.2.2.1, o_this.2.2.2.2.2.2.1, o_this.2.2.2.2.2.2.2.1, 7, o_this.2.2.2.2.2.2.2.2.2) ++ wK cI ad o_tokens) := hD
        refine lv_aload_n hx hb dX4_tellFault_67 rfl (lv_at hl 1 rfl) ?_
        refine lv_aload_n hx hb dX4_tellFault_68 rfl (lv_at hl 1 rfl) ?_
        refine va_get (D := D) (ci := 4) (v := .ref (ad 10)) (C := RX4) (T := TX4) (N := 12) hx hb hts layX4 hown hK hP 0 rfl rfl 0 (by decide) (hts _ (inA q397)) (fun _ h9 => h9) rfl dX4_tellFault_69 ?_
        refine lv_aload_n hx hb dX4_tellFault_72 rfl (lv_at hl 1 rfl) ?_
        refine va_get (D := D) (ci := 4) (v := .int o_this.1) (C := RX4) (T := TX4) (N := 12) hx hb hts layX4 hown hK hP 0 rfl rfl 2 (by decide) (hts _ (inA q399)) (fun _ h9 => h9) rfl dX4_tellFault_73 ?_
        obtain ⟨r6, hcr6, hM⟩ := ob_use hM
        refine cl_V (As := [.int o_this.1]) (rest := [.ref (ad 22)]) (wP cI ad (o_this.1, o_this.2.1, o_this.2.2.1, o_this.2.2.2.1, o_this.2.2.2.2.1, o_this.2.2.2.2.2.1, o_this.2.2.2.2.2.2.1, o_this.2.2.2.2.2.2.2.1, 7, o_this.2.2.2.2.2.2.2.2.2) ++ wK cI ad o_tokens) (.int r6 :: [.ref (ad 22)]) ⟨hx, hb, hml, hown, hts⟩ (c_Tokens_place l D cI sd ad o_tokens o_this.1 r6 hcr6) (cwV2 hts q802 mvX2_place rfl rfl ⟨(Nat.le_of_ble_eq_true rfl), (Nat.le_of_ble_eq_true rfl)⟩) hK hE hA hP hD hS 1 (T := TX2) (N := 7) (ci := 2) rfl rfl [1, 2, 3, 4] rfl (by decide) rfl rfl rfl rfl rfl rfl hl.1 (Nat.le_of_ble_eq_true rfl) dX4_tellFault_76 ⟨Nat.zero_le _, Nat.zero_le _⟩ (fun H locs hP hD hS => ?_)
        refine va_put (D := D) (ci := 4) (v := .int r6) (ty := .int) (C := RX4) (T := TX4) (N := 12) hx hb hts layX4 tyX4 tyX4_ok nmX4 hown hK hP hD hS 0 rfl rfl 11 (by decide) (hts _ (inA q409)) (fun _ h9 => h9) rfl (by decide +kernel) rfl rfl (Nat.le_of_ble_eq_true rfl) dX4_tellFault_79 (fun H locs hP hD hS => ?_)
        have hP : va_P D vwCl (wP cI ad (o_this.1, o_this.2.1, o_this.2.2.1, o_this.2.2.2.1, o_this.2.2.2.2.1, o_this.2.2.2.2.2.1, o_this.2.2.2.2.2.2.1, o_this.2.2.2.2.2.2.2.1, 7, r6) ++ wK cI ad o_tokens) H := hP
        have hD : va_D A (wP cI ad (o_this.1, o_this.2.1, o_this.2.2.1, o_this.2.2.2.1, o_this.2.2.2.2.1, o_this.2.2.2.2.2.1, o_this.2.2.2.2.2.2.1, o_this.2.2.2.2.2.2.2.1, 7, r6) ++ wK cI ad o_tokens) := hD
        cases hM
        exact rt_v hx hb hr hlk hP hD hS rfl dX4_tellFault_82
    · replace hM := if_t c3 hM
      refine lv_aload_n hx hb dX4_tellFault_31 rfl (lv_at hl 1 rfl) ?_
      refine lv_aload_n hx hb dX4_tellFault_32 rfl (lv_at hl 1 rfl) ?_
      refine va_get (D := D) (ci := 4) (v := .ref (ad 10)) (C := RX4) (T := TX4) (N := 12) hx hb hts layX4 hown hK hP 0 rfl rfl 0 (by decide) (hts _ (inA q397)) (fun _ h9 => h9) rfl dX4_tellFault_33 ?_
      refine lv_aload_n hx hb dX4_tellFault_36 rfl (lv_at hl 1 rfl) ?_
      refine va_get (D := D) (ci := 4) (v := .int o_this.1) (C := RX4) (T := TX4) (N := 12) hx hb hts layX4 hown hK hP 0 rfl rfl 2 (by decide) (hts _ (inA q399)) (fun _ h9 => h9) rfl dX4_tellFault_37 ?_
      obtain ⟨r7, hcr7, hM⟩ := ob_use hM
      refine cl_V (As := [.int o_this.1]) (rest := [.ref (ad 22)]) (wP cI ad o_this ++ wK cI ad o_tokens) (.int r7 :: [.ref (ad 22)]) ⟨hx, hb, hml, hown, hts⟩ (c_Tokens_value l D cI sd ad o_tokens o_this.1 r7 hcr7) (cwV2 hts q798 mvX2_value rfl rfl ⟨(Nat.le_of_ble_eq_true rfl), (Nat.le_of_ble_eq_true rfl)⟩) hK hE hA hP hD hS 1 (T := TX2) (N := 7) (ci := 2) rfl rfl [1, 2, 3, 4] rfl (by decide) rfl rfl rfl rfl rfl rfl hl.1 (Nat.le_of_ble_eq_true rfl) dX4_tellFault_40 ⟨Nat.zero_le _, Nat.zero_le _⟩ (fun H locs hP hD hS => ?_)
      refine va_put (D := D) (ci := 4) (v := .int r7) (ty := .int) (C := RX4) (T := TX4) (N := 12) hx hb hts layX4 tyX4 tyX4_ok nmX4 hown hK hP hD hS 0 rfl rfl 10 (by decide) (hts _ (inA q407)) (fun _ h9 => h9) rfl (by decide +kernel) rfl rfl (Nat.le_of_ble_eq_true rfl) dX4_tellFault_43 (fun H locs hP hD hS => ?_)
      have hP : va_P D vwCl (wP cI ad (o_this.1, o_this.2.1, o_this.2.2.1, o_this.2.2.2.1, o_this.2.2.2.2.1, o_this.2.2.2.2.2.1, o_this.2.2.2.2.2.2.1, o_this.2.2.2.2.2.2.2.1, r7, o_this.2.2.2.2.2.2.2.2.2) ++ wK cI ad o_tokens) H := hP
      have hD : va_D A (wP cI ad (o_this.1, o_this.2.1, o_this.2.2.1, o_this.2.2.2.1, o_this.2.2.2.2.1, o_this.2.2.2.2.2.1, o_this.2.2.2.2.2.2.1, o_this.2.2.2.2.2.2.2.1, r7, o_this.2.2.2.2.2.2.2.2.2) ++ wK cI ad o_tokens) := hD
      refine lv_goto (tgt := 67) hx hb dX4_tellFault_46 (by decide) ?_
      refine lv_aload_n hx hb dX4_tellFault_67 rfl (lv_at hl 1 rfl) ?_
      refine lv_aload_n hx hb dX4_tellFault_68 rfl (lv_at hl 1 rfl) ?_
      refine va_get (D := D) (ci := 4) (v := .ref (ad 10)) (C := RX4) (T := TX4) (N := 12) hx hb hts layX4 hown hK hP 0 rfl rfl 0 (by decide) (hts _ (inA q397)) (fun _ h9 => h9) rfl dX4_tellFault_69 ?_
      refine lv_aload_n hx hb dX4_tellFault_72 rfl (lv_at hl 1 rfl) ?_
      refine va_get (D := D) (ci := 4) (v := .int o_this.1) (C := RX4) (T := TX4) (N := 12) hx hb hts layX4 hown hK hP 0 rfl rfl 2 (by decide) (hts _ (inA q399)) (fun _ h9 => h9) rfl dX4_tellFault_73 ?_
      obtain ⟨r8, hcr8, hM⟩ := ob_use hM
      refine cl_V (As := [.int o_this.1]) (rest := [.ref (ad 22)]) (wP cI ad (o_this.1, o_this.2.1, o_this.2.2.1, o_this.2.2.2.1, o_this.2.2.2.2.1, o_this.2.2.2.2.2.1, o_this.2.2.2.2.2.2.1, o_this.2.2.2.2.2.2.2.1, r7, o_this.2.2.2.2.2.2.2.2.2) ++ wK cI ad o_tokens) (.int r8 :: [.ref (ad 22)]) ⟨hx, hb, hml, hown, hts⟩ (c_Tokens_place l D cI sd ad o_tokens o_this.1 r8 hcr8) (cwV2 hts q802 mvX2_place rfl rfl ⟨(Nat.le_of_ble_eq_true rfl), (Nat.le_of_ble_eq_true rfl)⟩) hK hE hA hP hD hS 1 (T := TX2) (N := 7) (ci := 2) rfl rfl [1, 2, 3, 4] rfl (by decide) rfl rfl rfl rfl rfl rfl hl.1 (Nat.le_of_ble_eq_true rfl) dX4_tellFault_76 ⟨Nat.zero_le _, Nat.zero_le _⟩ (fun H locs hP hD hS => ?_)
      refine va_put (D := D) (ci := 4) (v := .int r8) (ty := .int) (C := RX4) (T := TX4) (N := 12) hx hb hts layX4 tyX4 tyX4_ok nmX4 hown hK hP hD hS 0 rfl rfl 11 (by decide) (hts _ (inA q409)) (fun _ h9 => h9) rfl (by decide +kernel) rfl rfl (Nat.le_of_ble_eq_true rfl) dX4_tellFault_79 (fun H locs hP hD hS => ?_)
      have hP : va_P D vwCl (wP cI ad (o_this.1, o_this.2.1, o_this.2.2.1, o_this.2.2.2.1, o_this.2.2.2.2.1, o_this.2.2.2.2.2.1, o_this.2.2.2.2.2.2.1, o_this.2.2.2.2.2.2.2.1, r7, r8) ++ wK cI ad o_tokens) H := hP
      have hD : va_D A (wP cI ad (o_this.1, o_this.2.1, o_this.2.2.1, o_this.2.2.2.1, o_this.2.2.2.2.1, o_this.2.2.2.2.2.1, o_this.2.2.2.2.2.2.1, o_this.2.2.2.2.2.2.2.1, r7, r8) ++ wK cI ad o_tokens) := hD
      cases hM
      exact rt_v hx hb hr hlk hP hD hS rfl dX4_tellFault_82
  · replace hM := if_t c2 hM
    refine lv_aload_n hx hb dX4_tellFault_18 rfl (lv_at hl 1 rfl) ?_
    refine lv_iconst (v := 0) hx hb dX4_tellFault_19 (by decide) ?_
    refine va_put (D := D) (ci := 4) (v := .int 0) (ty := .int) (C := RX4) (T := TX4) (N := 12) hx hb hts layX4 tyX4 tyX4_ok nmX4 hown hK hP hD hS 0 rfl rfl 10 (by decide) (hts _ (inA q407)) (fun _ h9 => h9) rfl (by decide +kernel) rfl rfl (Nat.le_of_ble_eq_true rfl) dX4_tellFault_20 (fun H locs hP hD hS => ?_)
    have hP : va_P D vwCl (wP cI ad (o_this.1, o_this.2.1, o_this.2.2.1, o_this.2.2.2.1, o_this.2.2.2.2.1, o_this.2.2.2.2.2.1, o_this.2.2.2.2.2.2.1, o_this.2.2.2.2.2.2.2.1, 0, o_this.2.2.2.2.2.2.2.2.2) ++ wK cI ad o_tokens) H := hP
    have hD : va_D A (wP cI ad (o_this.1, o_this.2.1, o_this.2.2.1, o_this.2.2.2.1, o_this.2.2.2.2.1, o_this.2.2.2.2.2.1, o_this.2.2.2.2.2.2.1, o_this.2.2.2.2.2.2.2.1, 0, o_this.2.2.2.2.2.2.2.2.2) ++ wK cI ad o_tokens) := hD
    refine lv_goto (tgt := 67) hx hb dX4_tellFault_23 (by decide) ?_
    refine lv_aload_n hx hb dX4_tellFault_67 rfl (lv_at hl 1 rfl) ?_
    refine lv_aload_n hx hb dX4_tellFault_68 rfl (lv_at hl 1 rfl) ?_
    refine va_get (D := D) (ci := 4) (v := .ref (ad 10)) (C := RX4) (T := TX4) (N := 12) hx hb hts layX4 hown hK hP 0 rfl rfl 0 (by decide) (hts _ (inA q397)) (fun _ h9 => h9) rfl dX4_tellFault_69 ?_
    refine lv_aload_n hx hb dX4_tellFault_72 rfl (lv_at hl 1 rfl) ?_
    refine va_get (D := D) (ci := 4) (v := .int o_this.1) (C := RX4) (T := TX4) (N := 12) hx hb hts layX4 hown hK hP 0 rfl rfl 2 (by decide) (hts _ (inA q399)) (fun _ h9 => h9) rfl dX4_tellFault_73 ?_
    obtain ⟨r9, hcr9, hM⟩ := ob_use hM
    refine cl_V (As := [.int o_this.1]) (rest := [.ref (ad 22)]) (wP cI ad (o_this.1, o_this.2.1, o_this.2.2.1, o_this.2.2.2.1, o_this.2.2.2.2.1, o_this.2.2.2.2.2.1, o_this.2.2.2.2.2.2.1, o_this.2.2.2.2.2.2.2.1, 0, o_this.2.2.2.2.2.2.2.2.2) ++ wK cI ad o_tokens) (.int r9 :: [.ref (ad 22)]) ⟨hx, hb, hml, hown, hts⟩ (c_Tokens_place l D cI sd ad o_tokens o_this.1 r9 hcr9) (cwV2 hts q802 mvX2_place rfl rfl ⟨(Nat.le_of_ble_eq_true rfl), (Nat.le_of_ble_eq_true rfl)⟩) hK hE hA hP hD hS 1 (T := TX2) (N := 7) (ci := 2) rfl rfl [1, 2, 3, 4] rfl (by decide) rfl rfl rfl rfl rfl rfl hl.1 (Nat.le_of_ble_eq_true rfl) dX4_tellFault_76 ⟨Nat.zero_le _, Nat.zero_le _⟩ (fun H locs hP hD hS => ?_)
    refine va_put (D := D) (ci := 4) (v := .int r9) (ty := .int) (C := RX4) (T := TX4) (N := 12) hx hb hts layX4 tyX4 tyX4_ok nmX4 hown hK hP hD hS 0 rfl rfl 11 (by decide) (hts _ (inA q409)) (fun _ h9 => h9) rfl (by decide +kernel) rfl rfl (Nat.le_of_ble_eq_true rfl) dX4_tellFault_79 (fun H locs hP hD hS => ?_)
    have hP : va_P D vwCl (wP cI ad (o_this.1, o_this.2.1, o_this.2.2.1, o_this.2.2.2.1, o_this.2.2.2.2.1, o_this.2.2.2.2.2.1, o_this.2.2.2.2.2.2.1, o_this.2.2.2.2.2.2.2.1, 0, r9) ++ wK cI ad o_tokens) H := hP
    have hD : va_D A (wP cI ad (o_this.1, o_this.2.1, o_this.2.2.1, o_this.2.2.2.1, o_this.2.2.2.2.1, o_this.2.2.2.2.2.1, o_this.2.2.2.2.2.2.1, o_this.2.2.2.2.2.2.2.1, 0, r9) ++ wK cI ad o_tokens) := hD
    cases hM
    exact rt_v hx hb hr hlk hP hD hS rfl dX4_tellFault_82

set_option maxHeartbeats 4000000 in
set_option maxRecDepth 100000 in
theorem c_Parser_parse (l : Launch) (D : va_G) (cI : ClassId) (sd : Nat → Nat) (ad : Nat → Nat) (o_this : S_Parser) (o_tokens : S_Tokens) (o_tree : S_Tree) (res : S_Parser × S_Tree) (hM : f_Parser_parse o_this o_tokens o_tree = some res) : Ctr l D cI sd yX4_parse (wsM yX4_parse cX4_parse 5 (Option.none : Option Jvm.ClassFile.FieldType)) { frames := 461, cells := 0, slots := 0, locals := 11663 } [.ref (ad 22)] (wP cI ad o_this ++ wK cI ad o_tokens ++ wT cI ad o_tree) (wP cI ad res.1 ++ wK cI ad o_tokens ++ wT cI ad res.2) none := by
  refine Ctr.of (cc := cX4_parse) (maxL := 5) (own := RX4) (by decide +kernel) rfl rfl (Nat.le_of_ble_eq_true rfl) ?_
  intro p e s m below meth c A ls hx hb hr hml hown hts hlk hK hE hA hP hD hS hl
  have hl : lv_has ls 5 [(0, .ref (ad 22))] := hl
  unfold f_Parser_parse at hM
  refine lv_aload_n hx hb dX4_parse_0 rfl (lv_at hl 0 rfl) ?_
  refine lv_iconst (v := (-1)) hx hb dX4_parse_1 (by decide) ?_
  refine va_put (D := D) (ci := 4) (v := .int (-1)) (ty := .int) (C := RX4) (T := TX4) (N := 12) hx hb hts layX4 tyX4 tyX4_ok nmX4 hown hK hP hD hS 0 rfl rfl 2 (by decide) (hts _ (inA q399)) (fun _ h9 => h9) rfl (by decide +kernel) rfl rfl (Nat.le_of_ble_eq_true rfl) dX4_parse_2 (fun H locs hP hD hS => ?_)
  have hP : va_P D vwCl (wP cI ad ((-1), o_this.2) ++ wK cI ad o_tokens ++ wT cI ad o_tree) H := hP
  have hD : va_D A (wP cI ad ((-1), o_this.2) ++ wK cI ad o_tokens ++ wT cI ad o_tree) := hD
  refine lv_aload_n hx hb dX4_parse_5 rfl (lv_at hl 0 rfl) ?_
  refine lv_iconst (v := (-1)) hx hb dX4_parse_6 (by decide) ?_
  refine va_put (D := D) (ci := 4) (v := .int (-1)) (ty := .int) (C := RX4) (T := TX4) (N := 12) hx hb hts layX4 tyX4 tyX4_ok nmX4 hown hK hP hD hS 0 rfl rfl 3 (by decide) (hts _ (inA q400)) (fun _ h9 => h9) rfl (by decide +kernel) rfl rfl (Nat.le_of_ble_eq_true rfl) dX4_parse_7 (fun H locs hP hD hS => ?_)
  have hP : va_P D vwCl (wP cI ad ((-1), (-1), o_this.2.2) ++ wK cI ad o_tokens ++ wT cI ad o_tree) H := hP
  have hD : va_D A (wP cI ad ((-1), (-1), o_this.2.2) ++ wK cI ad o_tokens ++ wT cI ad o_tree) := hD
  refine lv_aload_n hx hb dX4_parse_10 rfl (lv_at hl 0 rfl) ?_
  refine lv_iconst (v := 0) hx hb dX4_parse_11 (by decide) ?_
  refine va_put (D := D) (ci := 4) (v := .int 0) (ty := .int) (C := RX4) (T := TX4) (N := 12) hx hb hts layX4 tyX4 tyX4_ok nmX4 hown hK hP hD hS 0 rfl rfl 7 (by decide) (hts _ (inA q404)) (fun _ h9 => h9) rfl (by decide +kernel) rfl rfl (Nat.le_of_ble_eq_true rfl) dX4_parse_12 (fun H locs hP hD hS => ?_)
  have hP : va_P D vwCl (wP cI ad ((-1), (-1), o_this.2.2.1, o_this.2.2.2.1, o_this.2.2.2.2.1, 0, o_this.2.2.2.2.2.2) ++ wK cI ad o_tokens ++ wT cI ad o_tree) H := hP
  have hD : va_D A (wP cI ad ((-1), (-1), o_this.2.2.1, o_this.2.2.2.1, o_this.2.2.2.2.1, 0, o_this.2.2.2.2.2.2) ++ wK cI ad o_tokens ++ wT cI ad o_tree) := hD
  refine lv_aload_n hx hb dX4_parse_15 rfl (lv_at hl 0 rfl) ?_
  refine lv_iconst (v := 0) hx hb dX4_parse_16 (by decide) ?_
  refine va_put (D := D) (ci := 4) (v := .int 0) (ty := .int) (C := RX4) (T := TX4) (N := 12) hx hb hts layX4 tyX4 tyX4_ok nmX4 hown hK hP hD hS 0 rfl rfl 8 (by decide) (hts _ (inA q405)) (fun _ h9 => h9) rfl (by decide +kernel) rfl rfl (Nat.le_of_ble_eq_true rfl) dX4_parse_17 (fun H locs hP hD hS => ?_)
  have hP : va_P D vwCl (wP cI ad ((-1), (-1), o_this.2.2.1, o_this.2.2.2.1, o_this.2.2.2.2.1, 0, 0, o_this.2.2.2.2.2.2.2) ++ wK cI ad o_tokens ++ wT cI ad o_tree) H := hP
  have hD : va_D A (wP cI ad ((-1), (-1), o_this.2.2.1, o_this.2.2.2.1, o_this.2.2.2.2.1, 0, 0, o_this.2.2.2.2.2.2.2) ++ wK cI ad o_tokens ++ wT cI ad o_tree) := hD
  refine lv_aload_n hx hb dX4_parse_20 rfl (lv_at hl 0 rfl) ?_
  refine lv_iconst (v := 0) hx hb dX4_parse_21 (by decide) ?_
  refine va_put (D := D) (ci := 4) (v := .int 0) (ty := .boolean) (C := RX4) (T := TX4) (N := 12) hx hb hts layX4 tyX4 tyX4_ok nmX4 hown hK hP hD hS 0 rfl rfl 9 (by decide) (hts _ (inA q406)) (fun _ h9 => h9) rfl (by decide +kernel) (by decide) (by decide) (Nat.le_of_ble_eq_true rfl) dX4_parse_22 (fun H locs hP hD hS => ?_)
  have hP : va_P D vwCl (wP cI ad ((-1), (-1), o_this.2.2.1, o_this.2.2.2.1, o_this.2.2.2.2.1, 0, 0, 0, o_this.2.2.2.2.2.2.2.2) ++ wK cI ad o_tokens ++ wT cI ad o_tree) H := hP
  have hD : va_D A (wP cI ad ((-1), (-1), o_this.2.2.1, o_this.2.2.2.1, o_this.2.2.2.2.1, 0, 0, 0, o_this.2.2.2.2.2.2.2.2) ++ wK cI ad o_tokens ++ wT cI ad o_tree) := hD
  refine lv_aload_n hx hb dX4_parse_25 rfl (lv_at hl 0 rfl) ?_
  refine lv_iconst (v := (-1)) hx hb dX4_parse_26 (by decide) ?_
  obtain ⟨r1, hcr1, hM⟩ := ob_use hM
  refine cl_V (As := [.int (-1)]) (rest := []) (wP cI ad r1 ++ wK cI ad o_tokens ++ wT cI ad o_tree) [] ⟨hx, hb, hml, hown, hts⟩ (c_Parser_take l D cI sd ad ((-1), (-1), o_this.2.2.1, o_this.2.2.2.1, o_this.2.2.2.2.1, 0, 0, 0, o_this.2.2.2.2.2.2.2.2) o_tokens (-1) r1 hcr1) (cwV2 hts q614 mvX4_take rfl rfl ⟨(Nat.le_of_ble_eq_true rfl), (Nat.le_of_ble_eq_true rfl)⟩) hK hE hA hP hD hS 0 (T := TX4) (N := 12) (ci := 4) rfl rfl [0, 1, 2, 3, 4] rfl (by decide) rfl rfl rfl rfl rfl rfl hl.1 (Nat.le_of_ble_eq_true rfl) dX4_parse_27 ⟨Nat.zero_le _, Nat.zero_le _⟩ (fun H locs hP hD hS => ?_)
  refine lv_aload_n hx hb dX4_parse_30 rfl (lv_at hl 0 rfl) ?_
  refine va_get (D := D) (ci := 4) (v := .ref (ad 14)) (C := RX4) (T := TX4) (N := 12) hx hb hts layX4 hown hK hP 0 rfl rfl 1 (by decide) (hts _ (inA q398)) (fun _ h9 => h9) rfl dX4_parse_31 ?_
  obtain ⟨r2, hcr2, hM⟩ := ob_use hM
  refine cl_V (As := []) (rest := []) (wP cI ad r1 ++ wK cI ad o_tokens ++ wT cI ad r2) [] ⟨hx, hb, hml, hown, hts⟩ (c_Tree_forget l D cI sd ad o_tree r2 hcr2) (cwV2 hts q618 mvX3_forget rfl rfl ⟨(Nat.le_of_ble_eq_true rfl), (Nat.le_of_ble_eq_true rfl)⟩) hK hE hA hP hD hS 5 (T := TX3) (N := 8) (ci := 3) rfl rfl [5, 6, 7, 8, 9, 10, 11, 12] rfl (by decide) rfl rfl rfl rfl rfl rfl hl.1 (Nat.le_of_ble_eq_true rfl) dX4_parse_34 ⟨Nat.zero_le _, Nat.zero_le _⟩ (fun H locs hP hD hS => ?_)
  refine lv_aload_n hx hb dX4_parse_37 rfl (lv_at hl 0 rfl) ?_
  refine va_get (D := D) (ci := 4) (v := .ref (ad 14)) (C := RX4) (T := TX4) (N := 12) hx hb hts layX4 hown hK hP 0 rfl rfl 1 (by decide) (hts _ (inA q398)) (fun _ h9 => h9) rfl dX4_parse_38 ?_
  refine lv_iconst (v := (-1)) hx hb dX4_parse_41 (by decide) ?_
  refine lv_iconst (v := 0) hx hb dX4_parse_42 (by decide) ?_
  refine lv_iconst (v := 0) hx hb dX4_parse_43 (by decide) ?_
  refine lv_iconst (v := 0) hx hb dX4_parse_44 (by decide) ?_
  obtain ⟨r3, hcr3, hM⟩ := ob_use hM
  refine cl_V (As := [.int (-1), .int 0, .int 0, .int 0]) (rest := []) (wP cI ad r1 ++ wK cI ad o_tokens ++ wT cI ad r3.2) (.int r3.1 :: []) ⟨hx, hb, hml, hown, hts⟩ (c_Tree_add l D cI sd ad r2 (-1) 0 0 0 r3 hcr3) (cwV2 hts q622 mvX3_add rfl rfl ⟨(Nat.le_of_ble_eq_true rfl), (Nat.le_of_ble_eq_true rfl)⟩) hK hE hA hP hD hS 5 (T := TX3) (N := 8) (ci := 3) rfl rfl [5, 6, 7, 8, 9, 10, 11, 12] rfl (by decide) rfl rfl rfl rfl rfl rfl hl.1 (Nat.le_of_ble_eq_true rfl) dX4_parse_45 ⟨Nat.zero_le _, Nat.zero_le _⟩ (fun H locs hP hD hS => ?_)
  refine lv_istore_n (lv' := [(1, .int r3.1), (0, .ref (ad 22))]) hx hb dX4_parse_48 rfl hl (by decide) rfl (fun ls hl => ?_)
  refine lv_iconst (v := 0) hx hb dX4_parse_49 (by decide) ?_
  refine lv_istore_n (lv' := [(2, .int 0), (1, .int r3.1), (0, .ref (ad 22))]) hx hb dX4_parse_50 rfl hl (by decide) rfl (fun ls hl => ?_)
  have lp_L51 : ∀ (w1_L51 : Int32) (o_tokens_L51 : S_Tokens) (n : Nat) (v2_L51 : Int32) (o_this_L51 : S_Parser) (o_tree_L51 : S_Tree) (out_L51 : S_Parser × S_Tree) (H : Heap) (locs : List Loc) (ls : Array Slot), f_Parser_parse_L51 w1_L51 o_tokens_L51 n v2_L51 o_this_L51 o_tree_L51 = some out_L51 → va_P D vwCl (wP cI ad o_this_L51 ++ wK cI ad o_tokens_L51 ++ wT cI ad o_tree_L51) H → va_D A (wP cI ad o_this_L51 ++ wK cI ad o_tokens_L51 ++ wT cI ad o_tree_L51) → va_S A s.heap H locs → lv_has ls 5 [(2, .int v2_L51), (1, .int w1_L51), (0, .ref (ad 22))] → (∀ (H : Heap) (locs : List Loc) (ls : Array Slot), va_P D vwCl (wP cI ad out_L51.1 ++ wK cI ad o_tokens_L51 ++ wT cI ad out_L51.2) H → va_D A (wP cI ad out_L51.1 ++ wK cI ad o_tokens_L51 ++ wT cI ad out_L51.2) → va_S A s.heap H locs → lv_has ls 5 [(1, .int w1_L51), (0, .ref (ad 22))] → W p l e { frames := 461, cells := 0, slots := 0, locals := 11663 } s m [.ref (ad 22)].toArray below meth c H locs 0 0 (MQ below (CQ D A (wP cI ad res.1 ++ wK cI ad o_tokens ++ wT cI ad res.2) none) [.ref (ad 22)].toArray s 0 0 A) (F0 m 122 ls [])) → W p l e { frames := 461, cells := 0, slots := 0, locals := 11663 } s m [.ref (ad 22)].toArray below meth c H locs 0 0 (MQ below (CQ D A (wP cI ad res.1 ++ wK cI ad o_tokens ++ wT cI ad res.2) none) [.ref (ad 22)].toArray s 0 0 A) (F0 m 51 ls []) := by
    intro w1_L51 o_tokens_L51 n
    induction n with
    | zero => intro v2_L51 o_this_L51 o_tree_L51 out_L51 H locs ls hM; exact absurd (show none = some _ from hM) (by simp)
    | succ n ih_L51 =>
      intro v2_L51 o_this_L51 o_tree_L51 out_L51 H locs ls hM hP hD hS hl kx_L51
      rw [f_Parser_parse_L51] at hM
      refine lv_iload_n hx hb dX4_parse_51 rfl (lv_at hl 0 rfl) ?_
      refine lv_sipush (v := 8192) hx hb dX4_parse_52 (by decide) ?_
      refine lv_icmp_ge (tgt := 122) hx hb dX4_parse_55 (by decide) (fun c1611 => ?_) (fun c1611 => ?_)
      · replace hM := if_t c1611 hM
        cases hM
        exact kx_L51 _ _ _ hP hD hS (lv_sub hl [1, 2] rfl)
      · replace hM := if_f c1611 hM
        refine lv_aload_n hx hb dX4_parse_58 rfl (lv_at hl 2 rfl) ?_
        obtain ⟨r1612, hcr1612, hM⟩ := ob_use hM
        refine cl_V (As := []) (rest := []) (wP cI ad o_this_L51 ++ wK cI ad o_tokens_L51 ++ wT cI ad o_tree_L51) (.int r1612 :: []) ⟨hx, hb, hml, hown, hts⟩ (c_Parser_startsBlock l D cI sd ad o_this_L51 r1612 hcr1612) (cwV2 hts q626 mvX4_startsBlock rfl rfl ⟨(Nat.le_of_ble_eq_true rfl), (Nat.le_of_ble_eq_true rfl)⟩) hK hE hA hP hD hS 0 (T := TX4) (N := 12) (ci := 4) rfl rfl [0] rfl (by decide) rfl rfl rfl rfl rfl rfl hl.1 (Nat.le_of_ble_eq_true rfl) dX4_parse_59 ⟨Nat.zero_le _, Nat.zero_le _⟩ (fun H locs hP hD hS => ?_)
        refine lv_if_eq (tgt := 122) hx hb dX4_parse_62 (by decide) (fun c1613 => ?_) (fun c1613 => ?_)
        · replace hM := if_t c1613 hM
          cases hM
          exact kx_L51 _ _ _ hP hD hS (lv_sub hl [1, 2] rfl)
        · replace hM := if_f c1613 hM
          refine lv_aload_n hx hb dX4_parse_65 rfl (lv_at hl 2 rfl) ?_
          refine va_get (D := D) (ci := 4) (v := .int o_this_L51.2.1) (C := RX4) (T := TX4) (N := 12) hx hb hts layX4 hown hK hP 0 rfl rfl 3 (by decide) (hts _ (inA q400)) (fun _ h9 => h9) rfl dX4_parse_66 ?_
          refine lv_istore_n (lv' := [(3, .int o_this_L51.2.1), (2, .int v2_L51), (1, .int w1_L51), (0, .ref (ad 22))]) hx hb dX4_parse_69 rfl hl (by decide) rfl (fun ls hl => ?_)
          refine lv_aload_n hx hb dX4_parse_70 rfl (lv_at hl 3 rfl) ?_
          refine lv_iload_n hx hb dX4_parse_71 rfl (lv_at hl 2 rfl) ?_
          obtain ⟨r1614, hcr1614, hM⟩ := ob_use hM
          refine cl_V (As := [.int w1_L51]) (rest := []) (wP cI ad r1614.2.1 ++ wK cI ad o_tokens_L51 ++ wT cI ad r1614.2.2) (.int r1614.1 :: []) ⟨hx, hb, hml, hown, hts⟩ (c_Parser_blockHead l D cI sd ad o_this_L51 o_tokens_L51 o_tree_L51 w1_L51 r1614 hcr1614) (cwV2 hts q630 mvX4_blockHead rfl rfl ⟨(Nat.le_of_ble_eq_true rfl), (Nat.le_of_ble_eq_true rfl)⟩) hK hE hA hP hD hS 0 (T := TX4) (N := 12) (ci := 4) rfl rfl [0, 1, 2, 3, 4, 5, 6, 7, 8, 9, 10, 11, 12] rfl (by decide) rfl rfl rfl rfl rfl rfl hl.1 (Nat.le_of_ble_eq_true rfl) dX4_parse_72 ⟨Nat.zero_le _, Nat.zero_le _⟩ (fun H locs hP hD hS => ?_)
          refine lv_istore (lv' := [(4, .int r1614.1), (3, .int o_this_L51.2.1), (2, .int v2_L51), (1, .int w1_L51), (0, .ref (ad 22))]) hx hb dX4_parse_75 hl (by decide) rfl (fun ls hl => ?_)
          refine lv_aload_n hx hb dX4_parse_77 rfl (lv_at hl 4 rfl) ?_
          refine lv_iload hx hb dX4_parse_78 (lv_at hl 0 rfl) ?_
          obtain ⟨r1615, hcr1615, hM⟩ := ob_use hM
          refine cl_V (As := [.int r1614.1]) (rest := []) (wP cI ad r1615.1 ++ wK cI ad o_tokens_L51 ++ wT cI ad r1615.2) [] ⟨hx, hb, hml, hown, hts⟩ (c_Parser_sections l D cI sd ad r1614.2.1 o_tokens_L51 r1614.2.2 r1614.1 r1615 hcr1615) (cwV2 hts q645 mvX4_sections rfl rfl ⟨(Nat.le_of_ble_eq_true rfl), (Nat.le_of_ble_eq_true rfl)⟩) hK hE hA hP hD hS 0 (T := TX4) (N := 12) (ci := 4) rfl rfl [0, 1, 2, 3, 4, 5, 6, 7, 8, 9, 10, 11, 12] rfl (by decide) rfl rfl rfl rfl rfl rfl hl.1 (Nat.le_of_ble_eq_true rfl) dX4_parse_80 ⟨Nat.zero_le _, Nat.zero_le _⟩ (fun H locs hP hD hS => ?_)
          refine lv_aload_n hx hb dX4_parse_83 rfl (lv_at hl 4 rfl) ?_
          refine va_get (D := D) (ci := 4) (v := .int r1615.1.2.1) (C := RX4) (T := TX4) (N := 12) hx hb hts layX4 hown hK hP 0 rfl rfl 3 (by decide) (hts _ (inA q400)) (fun _ h9 => h9) rfl dX4_parse_84 ?_
          refine lv_sipush (v := 293) hx hb dX4_parse_87 (by decide) ?_
          refine lv_icmp_ne (tgt := 102) hx hb dX4_parse_90 (by decide) (fun c1616 => ?_) (fun c1616 => ?_)
          · replace hM := if_f c1616 hM
            refine lv_aload_n hx hb dX4_parse_102 rfl (lv_at hl 4 rfl) ?_
            refine lv_iload hx hb dX4_parse_103 (lv_at hl 0 rfl) ?_
            obtain ⟨r1617, hcr1617, hM⟩ := ob_use hM
            refine cl_V (As := [.int r1614.1]) (rest := []) (wP cI ad r1617.1 ++ wK cI ad o_tokens_L51 ++ wT cI ad r1617.2) [] ⟨hx, hb, hml, hown, hts⟩ (c_Parser_body l D cI sd ad r1615.1 o_tokens_L51 r1615.2 r1614.1 r1617 hcr1617) (cwV2 hts q703 mvX4_body rfl rfl ⟨(Nat.le_of_ble_eq_true rfl), (Nat.le_of_ble_eq_true rfl)⟩) hK hE hA hP hD hS 0 (T := TX4) (N := 12) (ci := 4) rfl rfl [0, 1, 2, 3, 4, 5, 6, 7, 8, 9, 10, 11, 12] rfl (by decide) rfl rfl rfl rfl rfl rfl hl.1 (Nat.le_of_ble_eq_true rfl) dX4_parse_105 ⟨Nat.zero_le _, Nat.zero_le _⟩ (fun H locs hP hD hS => ?_)
            refine lv_aload_n hx hb dX4_parse_108 rfl (lv_at hl 4 rfl) ?_
            refine lv_iload_n hx hb dX4_parse_109 rfl (lv_at hl 1 rfl) ?_
            obtain ⟨r1618, hcr1618, hM⟩ := ob_use hM
            refine cl_S (As := [.int o_this_L51.2.1]) (rest := [.ref (ad 22)]) (wP cI ad r1617.1 ++ wK cI ad o_tokens_L51 ++ wT cI ad r1617.2) (.int r1618 :: [.ref (ad 22)]) ⟨hx, hb, hml, hown, hts⟩ (c_Parser_endOfBlock l D cI sd ad o_this_L51.2.1 r1618 hcr1618) (cwS2 hts q790 mvX4_endOfBlock rfl rfl ⟨(Nat.le_of_ble_eq_true rfl), (Nat.le_of_ble_eq_true rfl)⟩) hK hE hA hP hD hS [] rfl (by decide) rfl rfl rfl rfl rfl rfl hl.1 (Nat.le_of_ble_eq_true rfl) dX4_parse_110 ⟨Nat.zero_le _, Nat.zero_le _⟩ (fun H locs hP hD hS => ?_)
            obtain ⟨r1619, hcr1619, hM⟩ := ob_use hM
            refine cl_V (As := [.int r1618]) (rest := []) (wP cI ad r1619 ++ wK cI ad o_tokens_L51 ++ wT cI ad r1617.2) [] ⟨hx, hb, hml, hown, hts⟩ (c_Parser_take l D cI sd ad r1617.1 o_tokens_L51 r1618 r1619 hcr1619) (cwV2 hts q614 mvX4_take rfl rfl ⟨(Nat.le_of_ble_eq_true rfl), (Nat.le_of_ble_eq_true rfl)⟩) hK hE hA hP hD hS 0 (T := TX4) (N := 12) (ci := 4) rfl rfl [0, 1, 2, 3, 4] rfl (by decide) rfl rfl rfl rfl rfl rfl hl.1 (Nat.le_of_ble_eq_true rfl) dX4_parse_113 ⟨Nat.zero_le _, Nat.zero_le _⟩ (fun H locs hP hD hS => ?_)
            obtain ⟨x1620, ex1620⟩ : ∃ y : Int32, y = v2_L51 + 1 := ⟨_, rfl⟩
            replace hM := nm_use ex1620 hM
            refine lv_iinc (v := x1620) (lv' := [(2, .int x1620), (4, .int r1614.1), (3, .int o_this_L51.2.1), (1, .int w1_L51), (0, .ref (ad 22))]) hx hb dX4_parse_116 hl (k := 2) rfl (by rw [ex1620]; rfl) (by decide) rfl (fun ls hl => ?_)
            refine lv_goto (tgt := 51) hx hb dX4_parse_119 (by decide) ?_
            exact ih_L51 x1620 r1619 r1617.2 out_L51 _ _ _ hM hP hD hS (lv_sub hl [0, 3, 4] rfl) kx_L51
          · replace hM := if_t c1616 hM
            refine lv_aload_n hx hb dX4_parse_93 rfl (lv_at hl 4 rfl) ?_
            refine lv_iload hx hb dX4_parse_94 (lv_at hl 0 rfl) ?_
            obtain ⟨r1621, hcr1621, hM⟩ := ob_use hM
            refine cl_V (As := [.int r1614.1]) (rest := []) (wP cI ad r1621.1 ++ wK cI ad o_tokens_L51 ++ wT cI ad r1621.2) [] ⟨hx, hb, hml, hown, hts⟩ (c_Parser_ladder l D cI sd ad r1615.1 o_tokens_L51 r1615.2 r1614.1 r1621 hcr1621) (cwV2 hts q673 mvX4_ladder rfl rfl ⟨(Nat.le_of_ble_eq_true rfl), (Nat.le_of_ble_eq_true rfl)⟩) hK hE hA hP hD hS 0 (T := TX4) (N := 12) (ci := 4) rfl rfl [0, 1, 2, 3, 4, 5, 6, 7, 8, 9, 10, 11, 12] rfl (by decide) rfl rfl rfl rfl rfl rfl hl.1 (Nat.le_of_ble_eq_true rfl) dX4_parse_96 ⟨Nat.zero_le _, Nat.zero_le _⟩ (fun H locs hP hD hS => ?_)
            refine lv_goto (tgt := 108) hx hb dX4_parse_99 (by decide) ?_
            refine lv_aload_n hx hb dX4_parse_108 rfl (lv_at hl 4 rfl) ?_
            refine lv_iload_n hx hb dX4_parse_109 rfl (lv_at hl 1 rfl) ?_
            obtain ⟨r1622, hcr1622, hM⟩ := ob_use hM
            refine cl_S (As := [.int o_this_L51.2.1]) (rest := [.ref (ad 22)]) (wP cI ad r1621.1 ++ wK cI ad o_tokens_L51 ++ wT cI ad r1621.2) (.int r1622 :: [.ref (ad 22)]) ⟨hx, hb, hml, hown, hts⟩ (c_Parser_endOfBlock l D cI sd ad o_this_L51.2.1 r1622 hcr1622) (cwS2 hts q790 mvX4_endOfBlock rfl rfl ⟨(Nat.le_of_ble_eq_true rfl), (Nat.le_of_ble_eq_true rfl)⟩) hK hE hA hP hD hS [] rfl (by decide) rfl rfl rfl rfl rfl rfl hl.1 (Nat.le_of_ble_eq_true rfl) dX4_parse_110 ⟨Nat.zero_le _, Nat.zero_le _⟩ (fun H locs hP hD hS => ?_)
            obtain ⟨r1623, hcr1623, hM⟩ := ob_use hM
            refine cl_V (As := [.int r1622]) (rest := []) (wP cI ad r1623 ++ wK cI ad o_tokens_L51 ++ wT cI ad r1621.2) [] ⟨hx, hb, hml, hown, hts⟩ (c_Parser_take l D cI sd ad r1621.1 o_tokens_L51 r1622 r1623 hcr1623) (cwV2 hts q614 mvX4_take rfl rfl ⟨(Nat.le_of_ble_eq_true rfl), (Nat.le_of_ble_eq_true rfl)⟩) hK hE hA hP hD hS 0 (T := TX4) (N := 12) (ci := 4) rfl rfl [0, 1, 2, 3, 4] rfl (by decide) rfl rfl rfl rfl rfl rfl hl.1 (Nat.le_of_ble_eq_true rfl) dX4_parse_113 ⟨Nat.zero_le _, Nat.zero_le _⟩ (fun H locs hP hD hS => ?_)
            obtain ⟨x1624, ex1624⟩ : ∃ y : Int32, y = v2_L51 + 1 := ⟨_, rfl⟩
            replace hM := nm_use ex1624 hM
            refine lv_iinc (v := x1624) (lv' := [(2, .int x1624), (4, .int r1614.1), (3, .int o_this_L51.2.1), (1, .int w1_L51), (0, .ref (ad 22))]) hx hb dX4_parse_116 hl (k := 2) rfl (by rw [ex1624]; rfl) (by decide) rfl (fun ls hl => ?_)
            refine lv_goto (tgt := 51) hx hb dX4_parse_119 (by decide) ?_
            exact ih_L51 x1624 r1623 r1621.2 out_L51 _ _ _ hM hP hD hS (lv_sub hl [0, 3, 4] rfl) kx_L51
  obtain ⟨r4, hcr4, hM⟩ := ob_use hM
  refine lp_L51 r3.1 o_tokens FU 0 r1 r3.2 r4 _ _ _ hcr4 hP hD hS (lv_sub hl [0, 1, 2] rfl) (fun H locs ls hP hD hS hl => ?_)
  refine lv_aload_n hx hb dX4_parse_122 rfl (lv_at hl 1 rfl) ?_
  refine lv_iconst (v := 4) hx hb dX4_parse_123 (by decide) ?_
  obtain ⟨r5, hcr5, hM⟩ := ob_use hM
  refine cl_V (As := [.int 4]) (rest := []) (wP cI ad r5 ++ wK cI ad o_tokens ++ wT cI ad r4.2) [] ⟨hx, hb, hml, hown, hts⟩ (c_Parser_take l D cI sd ad r4.1 o_tokens 4 r5 hcr5) (cwV2 hts q614 mvX4_take rfl rfl ⟨(Nat.le_of_ble_eq_true rfl), (Nat.le_of_ble_eq_true rfl)⟩) hK hE hA hP hD hS 0 (T := TX4) (N := 12) (ci := 4) rfl rfl [0, 1, 2, 3, 4] rfl (by decide) rfl rfl rfl rfl rfl rfl hl.1 (Nat.le_of_ble_eq_true rfl) dX4_parse_124 ⟨Nat.zero_le _, Nat.zero_le _⟩ (fun H locs hP hD hS => ?_)
  refine lv_aload_n hx hb dX4_parse_127 rfl (lv_at hl 1 rfl) ?_
  obtain ⟨r6, hcr6, hM⟩ := ob_use hM
  refine cl_V (As := []) (rest := []) (wP cI ad r6 ++ wK cI ad o_tokens ++ wT cI ad r4.2) [] ⟨hx, hb, hml, hown, hts⟩ (c_Parser_tellFault l D cI sd ad r5 o_tokens r6 hcr6) (cwV2 hts q793 mvX4_tellFault rfl rfl ⟨(Nat.le_of_ble_eq_true rfl), (Nat.le_of_ble_eq_true rfl)⟩) hK hE hA hP hD hS 0 (T := TX4) (N := 12) (ci := 4) rfl rfl [0, 1, 2, 3, 4] rfl (by decide) rfl rfl rfl rfl rfl rfl hl.1 (Nat.le_of_ble_eq_true rfl) dX4_parse_128 ⟨Nat.zero_le _, Nat.zero_le _⟩ (fun H locs hP hD hS => ?_)
  cases hM
  exact rt_v hx hb hr hlk hP hD hS rfl dX4_parse_131

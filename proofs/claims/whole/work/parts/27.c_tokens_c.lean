set_option maxHeartbeats 4000000 in
set_option maxRecDepth 100000 in
theorem c_Tokens_scanPlace (l : Launch) (D : va_G) (cI : ClassId) (sd : Nat → Nat) (ad : Nat → Nat) (o_this : S_Tokens) (o_text : S_Bytes) (res : S_Tokens) (hM : f_Tokens_scanPlace o_this o_text = some res) : Ctr l D cI sd yX2_scanPlace (wsM yX2_scanPlace cX2_scanPlace 6 (Option.none : Option Jvm.ClassFile.FieldType)) { frames := 3, cells := 0, slots := 0, locals := 67 } [.ref (ad 10)] (w_Tokens_this_text cI ad o_this o_text) (w_Tokens_this_text cI ad res o_text) none := by
  refine Ctr.of (cc := cX2_scanPlace) (maxL := 6) (own := RX2) (by decide +kernel) rfl rfl (Nat.le_of_ble_eq_true rfl) ?_
  intro p e s m below meth c A ls hx hb hr hml hown hts hlk hK hE hA hP hD hS hl
  have hl : lv_has ls 6 [(0, .ref (ad 10))] := hl
  unfold f_Tokens_scanPlace at hM
  refine lv_aload_n hx hb dX2_scanPlace_0 rfl (lv_at hl 0 rfl) ?_
  refine va_get (D := D) (ci := 2) (v := .int o_this.2.1) (C := RX2) (T := TX2) (N := 7) hx hb hts layX2 hown hK hP 0 rfl rfl 6 (by decide) (hts _ (inA q341)) (fun _ h9 => h9) rfl dX2_scanPlace_1 ?_
  refine lv_istore_n (lv' := [(1, .int o_this.2.1), (0, .ref (ad 10))]) hx hb dX2_scanPlace_4 rfl hl (by decide) rfl (fun ls hl => ?_)
  refine lv_aload_n hx hb dX2_scanPlace_5 rfl (lv_at hl 1 rfl) ?_
  refine va_get (D := D) (ci := 2) (v := .ref (ad 1)) (C := RX2) (T := TX2) (N := 7) hx hb hts layX2 hown hK hP 0 rfl rfl 0 (by decide) (hts _ (inA q331)) (fun _ h9 => h9) rfl dX2_scanPlace_6 ?_
  refine lv_aload_n hx hb dX2_scanPlace_9 rfl (lv_at hl 1 rfl) ?_
  refine va_get (D := D) (ci := 2) (v := .int o_this.2.1) (C := RX2) (T := TX2) (N := 7) hx hb hts layX2 hown hK hP 0 rfl rfl 6 (by decide) (hts _ (inA q341)) (fun _ h9 => h9) rfl dX2_scanPlace_10 ?_
  refine lv_iconst (v := 1) hx hb dX2_scanPlace_13 (by decide) ?_
  refine lv_iadd hx hb dX2_scanPlace_14 ?_
  obtain ⟨r1, hcr1, hM⟩ := ob_use hM
  refine cl_V (As := [.int (o_this.2.1 + 1)]) (rest := []) (w_Tokens_this_text cI ad o_this o_text) (.int r1 :: []) ⟨hx, hb, hml, hown, hts⟩ (c_Bytes_get l D cI sd (ad 1) (ad 2) 8192 o_text (o_this.2.1 + 1) r1 hcr1) (cwV2 hts q530 mvX0_get rfl rfl ⟨(Nat.le_of_ble_eq_true rfl), (Nat.le_of_ble_eq_true rfl)⟩) hK hE hA hP hD hS 4 (T := TX0) (N := 2) (ci := 0) rfl rfl [4, 5] rfl (by decide) rfl rfl rfl rfl rfl rfl hl.1 (Nat.le_of_ble_eq_true rfl) dX2_scanPlace_15 ⟨Nat.zero_le _, Nat.zero_le _⟩ (fun H locs hP hD hS => ?_)
  obtain ⟨r2, hcr2, hM⟩ := ob_use hM
  refine cl_SN (As := [.int r1]) (rest := []) (w_Tokens_this_text cI ad o_this o_text) (.int r2 :: []) ⟨hx, hb, hml, hown, hts⟩ (c_Top_great l D cI sd ad r1 r2 hcr2) (cwSN2 hts (nmE2 hE) mvX6_great rfl rfl ⟨(Nat.le_of_ble_eq_true rfl), (Nat.le_of_ble_eq_true rfl)⟩) hK hE hA hP hD hS [] rfl (by decide) rfl rfl rfl rfl rfl rfl hl.1 (Nat.le_of_ble_eq_true rfl) dX2_scanPlace_18 ⟨Nat.zero_le _, Nat.zero_le _⟩ (fun H locs hP hD hS => ?_)
  refine lv_aload_n hx hb dX2_scanPlace_21 rfl (lv_at hl 1 rfl) ?_
  refine va_get (D := D) (ci := 2) (v := .ref (ad 1)) (C := RX2) (T := TX2) (N := 7) hx hb hts layX2 hown hK hP 0 rfl rfl 0 (by decide) (hts _ (inA q331)) (fun _ h9 => h9) rfl dX2_scanPlace_22 ?_
  refine lv_aload_n hx hb dX2_scanPlace_25 rfl (lv_at hl 1 rfl) ?_
  refine va_get (D := D) (ci := 2) (v := .int o_this.2.1) (C := RX2) (T := TX2) (N := 7) hx hb hts layX2 hown hK hP 0 rfl rfl 6 (by decide) (hts _ (inA q341)) (fun _ h9 => h9) rfl dX2_scanPlace_26 ?_
  refine lv_iconst (v := 2) hx hb dX2_scanPlace_29 (by decide) ?_
  refine lv_iadd hx hb dX2_scanPlace_30 ?_
  obtain ⟨r3, hcr3, hM⟩ := ob_use hM
  refine cl_V (As := [.int (o_this.2.1 + 2)]) (rest := [.int r2]) (w_Tokens_this_text cI ad o_this o_text) (.int r3 :: [.int r2]) ⟨hx, hb, hml, hown, hts⟩ (c_Bytes_get l D cI sd (ad 1) (ad 2) 8192 o_text (o_this.2.1 + 2) r3 hcr3) (cwV2 hts q530 mvX0_get rfl rfl ⟨(Nat.le_of_ble_eq_true rfl), (Nat.le_of_ble_eq_true rfl)⟩) hK hE hA hP hD hS 4 (T := TX0) (N := 2) (ci := 0) rfl rfl [4, 5] rfl (by decide) rfl rfl rfl rfl rfl rfl hl.1 (Nat.le_of_ble_eq_true rfl) dX2_scanPlace_31 ⟨Nat.zero_le _, Nat.zero_le _⟩ (fun H locs hP hD hS => ?_)
  obtain ⟨r4, hcr4, hM⟩ := ob_use hM
  refine cl_SN (As := [.int r3]) (rest := [.int r2]) (w_Tokens_this_text cI ad o_this o_text) (.int r4 :: [.int r2]) ⟨hx, hb, hml, hown, hts⟩ (c_Top_great l D cI sd ad r3 r4 hcr4) (cwSN2 hts (nmE2 hE) mvX6_great rfl rfl ⟨(Nat.le_of_ble_eq_true rfl), (Nat.le_of_ble_eq_true rfl)⟩) hK hE hA hP hD hS [] rfl (by decide) rfl rfl rfl rfl rfl rfl hl.1 (Nat.le_of_ble_eq_true rfl) dX2_scanPlace_34 ⟨Nat.zero_le _, Nat.zero_le _⟩ (fun H locs hP hD hS => ?_)
  obtain ⟨r5, hcr5, hM⟩ := ob_use hM
  refine cl_S (As := [.int r2, .int r4]) (rest := []) (w_Tokens_this_text cI ad o_this o_text) (.int r5 :: []) ⟨hx, hb, hml, hown, hts⟩ (c_Tokens_placeRow l D cI sd ad r2 r4 r5 hcr5) (cwS2 hts q590 mvX2_placeRow rfl rfl ⟨(Nat.le_of_ble_eq_true rfl), (Nat.le_of_ble_eq_true rfl)⟩) hK hE hA hP hD hS [] rfl (by decide) rfl rfl rfl rfl rfl rfl hl.1 (Nat.le_of_ble_eq_true rfl) dX2_scanPlace_37 ⟨Nat.zero_le _, Nat.zero_le _⟩ (fun H locs hP hD hS => ?_)
  refine lv_istore_n (lv' := [(2, .int r5), (1, .int o_this.2.1), (0, .ref (ad 10))]) hx hb dX2_scanPlace_40 rfl hl (by decide) rfl (fun ls hl => ?_)
  refine lv_aload_n hx hb dX2_scanPlace_41 rfl (lv_at hl 2 rfl) ?_
  refine lv_dup hx hb dX2_scanPlace_42 rfl ?_
  refine va_get (D := D) (ci := 2) (v := .int o_this.2.1) (C := RX2) (T := TX2) (N := 7) hx hb hts layX2 hown hK hP 0 rfl rfl 6 (by decide) (hts _ (inA q341)) (fun _ h9 => h9) rfl dX2_scanPlace_43 ?_
  refine lv_iconst (v := 3) hx hb dX2_scanPlace_46 (by decide) ?_
  refine lv_iadd hx hb dX2_scanPlace_47 ?_
  refine va_put (D := D) (ci := 2) (v := .int (o_this.2.1 + 3)) (ty := .int) (C := RX2) (T := TX2) (N := 7) hx hb hts layX2 tyX2 tyX2_ok nmX2 hown hK hP hD hS 0 rfl rfl 6 (by decide) (hts _ (inA q341)) (fun _ h9 => h9) rfl (by decide +kernel) rfl rfl (Nat.le_of_ble_eq_true rfl) dX2_scanPlace_48 (fun H locs hP hD hS => ?_)
  have hP : va_P D vwCl (w_Tokens_this_text cI ad (o_this.1, o_this.2.1 + 3, o_this.2.2) o_text) H := hP
  have hD : va_D A (w_Tokens_this_text cI ad (o_this.1, o_this.2.1 + 3, o_this.2.2) o_text) := hD
  refine lv_aload_n hx hb dX2_scanPlace_51 rfl (lv_at hl 2 rfl) ?_
  refine lv_bipush (v := 10) hx hb dX2_scanPlace_52 (by decide) ?_
  obtain ⟨r6, hcr6, hM⟩ := ob_use hM
  refine cl_V (As := [.int 10]) (rest := []) (w_Tokens_this_text cI ad r6.2 o_text) (.long r6.1 :: []) ⟨hx, hb, hml, hown, hts⟩ (c_Tokens_digits l D cI sd ad (o_this.1, o_this.2.1 + 3, o_this.2.2) o_text 10 r6 hcr6) (cwV2 hts q544 mvX2_digits rfl rfl ⟨(Nat.le_of_ble_eq_true rfl), (Nat.le_of_ble_eq_true rfl)⟩) hK hE hA hP hD hS 0 (T := TX2) (N := 7) (ci := 2) rfl rfl [0, 1, 2, 3, 4, 5] rfl (by decide) rfl rfl rfl rfl rfl rfl hl.1 (Nat.le_of_ble_eq_true rfl) dX2_scanPlace_54 ⟨Nat.zero_le _, Nat.zero_le _⟩ (fun H locs hP hD hS => ?_)
  refine lv_lstore_n (lv' := [(3, .long r6.1), (2, .int r5), (1, .int o_this.2.1), (0, .ref (ad 10))]) hx hb dX2_scanPlace_57 rfl hl (by decide) rfl (fun ls hl => ?_)
  refine lv_iload_n hx hb dX2_scanPlace_58 rfl (lv_at hl 1 rfl) ?_
  refine lv_iconst (v := 3) hx hb dX2_scanPlace_59 (by decide) ?_
  refine lv_icmp_ge (tgt := 69) hx hb dX2_scanPlace_60 (by decide) (fun c7 => ?_) (fun c7 => ?_)
  · replace hM := if_t c7 hM
    refine lv_bipush (v := 63) hx hb dX2_scanPlace_69 (by decide) ?_
    refine lv_istore (lv' := [(5, .int 63), (3, .long r6.1), (2, .int r5), (1, .int o_this.2.1), (0, .ref (ad 10))]) hx hb dX2_scanPlace_71 hl (by decide) rfl (fun ls hl => ?_)
    refine lv_iload_n hx hb dX2_scanPlace_73 rfl (lv_at hl 2 rfl) ?_
    refine lv_iconst (v := (-1)) hx hb dX2_scanPlace_74 (by decide) ?_
    refine lv_icmp_eq (tgt := 111) hx hb dX2_scanPlace_75 (by decide) (fun c8 => ?_) (fun c8 => ?_)
    · replace hM := if_t c8 hM
      refine lv_aload_n hx hb dX2_scanPlace_111 rfl (lv_at hl 4 rfl) ?_
      refine lv_iconst (v := 5) hx hb dX2_scanPlace_112 (by decide) ?_
      refine lv_iload_n hx hb dX2_scanPlace_113 rfl (lv_at hl 3 rfl) ?_
      refine lv_iconst (v := 5) hx hb dX2_scanPlace_114 (by decide) ?_
      obtain ⟨r9, hcr9, hM⟩ := ob_use hM
      refine cl_V (As := [.int 5, .int o_this.2.1, .int 5]) (rest := []) (w_Tokens_this_text cI ad r9 o_text) [] ⟨hx, hb, hml, hown, hts⟩ (c_Tokens_add l D cI sd ad r6.2 5 o_this.2.1 5 r9 hcr9) (cwV2 hts q535 mvX2_add rfl rfl ⟨(Nat.le_of_ble_eq_true rfl), (Nat.le_of_ble_eq_true rfl)⟩) hK hE hA hP hD hS 0 (T := TX2) (N := 7) (ci := 2) rfl rfl [0, 1, 2, 3] rfl (by decide) rfl rfl rfl rfl rfl rfl hl.1 (Nat.le_of_ble_eq_true rfl) dX2_scanPlace_115 ⟨Nat.zero_le _, Nat.zero_le _⟩ (fun H locs hP hD hS => ?_)
      refine lv_goto (tgt := 135) hx hb dX2_scanPlace_118 (by decide) ?_
      cases hM
      exact rt_v hx hb hr hlk hP hD hS rfl dX2_scanPlace_135
    · replace hM := if_f c8 hM
      refine lv_lload_n hx hb dX2_scanPlace_78 rfl (lv_at hl 1 rfl) ?_
      refine lv_ldc2 (v := (-1)) hx hb hown (hts _ (inA q558)) dX2_scanPlace_79 ?_
      refine W.lcmp hx hb dX2_scanPlace_82 ?_
      refine lv_if_eq (tgt := 111) hx hb dX2_scanPlace_83 (by decide) (fun c10 => ?_) (fun c10 => ?_)
      · replace hM := if_t c10 hM
        refine lv_aload_n hx hb dX2_scanPlace_111 rfl (lv_at hl 4 rfl) ?_
        refine lv_iconst (v := 5) hx hb dX2_scanPlace_112 (by decide) ?_
        refine lv_iload_n hx hb dX2_scanPlace_113 rfl (lv_at hl 3 rfl) ?_
        refine lv_iconst (v := 5) hx hb dX2_scanPlace_114 (by decide) ?_
        obtain ⟨r11, hcr11, hM⟩ := ob_use hM
        refine cl_V (As := [.int 5, .int o_this.2.1, .int 5]) (rest := []) (w_Tokens_this_text cI ad r11 o_text) [] ⟨hx, hb, hml, hown, hts⟩ (c_Tokens_add l D cI sd ad r6.2 5 o_this.2.1 5 r11 hcr11) (cwV2 hts q535 mvX2_add rfl rfl ⟨(Nat.le_of_ble_eq_true rfl), (Nat.le_of_ble_eq_true rfl)⟩) hK hE hA hP hD hS 0 (T := TX2) (N := 7) (ci := 2) rfl rfl [0, 1, 2, 3] rfl (by decide) rfl rfl rfl rfl rfl rfl hl.1 (Nat.le_of_ble_eq_true rfl) dX2_scanPlace_115 ⟨Nat.zero_le _, Nat.zero_le _⟩ (fun H locs hP hD hS => ?_)
        refine lv_goto (tgt := 135) hx hb dX2_scanPlace_118 (by decide) ?_
        cases hM
        exact rt_v hx hb hr hlk hP hD hS rfl dX2_scanPlace_135
      · replace hM := if_f c10 hM
        refine lv_lload_n hx hb dX2_scanPlace_86 rfl (lv_at hl 1 rfl) ?_
        refine lv_iload hx hb dX2_scanPlace_87 (lv_at hl 0 rfl) ?_
        refine lv_i2l hx hb dX2_scanPlace_89 rfl ?_
        refine W.lcmp hx hb dX2_scanPlace_90 ?_
        refine lv_if_gt (tgt := 111) hx hb dX2_scanPlace_91 (by decide) (fun c12 => ?_) (fun c12 => ?_)
        · replace hM := if_t c12 hM
          refine lv_aload_n hx hb dX2_scanPlace_111 rfl (lv_at hl 4 rfl) ?_
          refine lv_iconst (v := 5) hx hb dX2_scanPlace_112 (by decide) ?_
          refine lv_iload_n hx hb dX2_scanPlace_113 rfl (lv_at hl 3 rfl) ?_
          refine lv_iconst (v := 5) hx hb dX2_scanPlace_114 (by decide) ?_
          obtain ⟨r13, hcr13, hM⟩ := ob_use hM
          refine cl_V (As := [.int 5, .int o_this.2.1, .int 5]) (rest := []) (w_Tokens_this_text cI ad r13 o_text) [] ⟨hx, hb, hml, hown, hts⟩ (c_Tokens_add l D cI sd ad r6.2 5 o_this.2.1 5 r13 hcr13) (cwV2 hts q535 mvX2_add rfl rfl ⟨(Nat.le_of_ble_eq_true rfl), (Nat.le_of_ble_eq_true rfl)⟩) hK hE hA hP hD hS 0 (T := TX2) (N := 7) (ci := 2) rfl rfl [0, 1, 2, 3] rfl (by decide) rfl rfl rfl rfl rfl rfl hl.1 (Nat.le_of_ble_eq_true rfl) dX2_scanPlace_115 ⟨Nat.zero_le _, Nat.zero_le _⟩ (fun H locs hP hD hS => ?_)
          refine lv_goto (tgt := 135) hx hb dX2_scanPlace_118 (by decide) ?_
          cases hM
          exact rt_v hx hb hr hlk hP hD hS rfl dX2_scanPlace_135
        · replace hM := if_f c12 hM
          refine lv_aload_n hx hb dX2_scanPlace_94 rfl (lv_at hl 4 rfl) ?_
          refine va_get (D := D) (ci := 2) (v := .ref (ad 1)) (C := RX2) (T := TX2) (N := 7) hx hb hts layX2 hown hK hP 0 rfl rfl 0 (by decide) (hts _ (inA q331)) (fun _ h9 => h9) rfl dX2_scanPlace_95 ?_
          refine lv_aload_n hx hb dX2_scanPlace_98 rfl (lv_at hl 4 rfl) ?_
          refine va_get (D := D) (ci := 2) (v := .int r6.2.2.1) (C := RX2) (T := TX2) (N := 7) hx hb hts layX2 hown hK hP 0 rfl rfl 6 (by decide) (hts _ (inA q341)) (fun _ h9 => h9) rfl dX2_scanPlace_99 ?_
          obtain ⟨r14, hcr14, hM⟩ := ob_use hM
          refine cl_V (As := [.int r6.2.2.1]) (rest := []) (w_Tokens_this_text cI ad r6.2 o_text) (.int r14 :: []) ⟨hx, hb, hml, hown, hts⟩ (c_Bytes_get l D cI sd (ad 1) (ad 2) 8192 o_text r6.2.2.1 r14 hcr14) (cwV2 hts q530 mvX0_get rfl rfl ⟨(Nat.le_of_ble_eq_true rfl), (Nat.le_of_ble_eq_true rfl)⟩) hK hE hA hP hD hS 4 (T := TX0) (N := 2) (ci := 0) rfl rfl [4, 5] rfl (by decide) rfl rfl rfl rfl rfl rfl hl.1 (Nat.le_of_ble_eq_true rfl) dX2_scanPlace_102 ⟨Nat.zero_le _, Nat.zero_le _⟩ (fun H locs hP hD hS => ?_)
          obtain ⟨r15, hcr15, hM⟩ := ob_use hM
          refine cl_SN (As := [.int r14]) (rest := []) (w_Tokens_this_text cI ad r6.2 o_text) (.int r15 :: []) ⟨hx, hb, hml, hown, hts⟩ (c_Top_isNameByte l D cI sd ad r14 r15 hcr15) (cwSN2 hts (nmE4 hE) mvX6_isNameByte rfl rfl ⟨(Nat.le_of_ble_eq_true rfl), (Nat.le_of_ble_eq_true rfl)⟩) hK hE hA hP hD hS [] rfl (by decide) rfl rfl rfl rfl rfl rfl hl.1 (Nat.le_of_ble_eq_true rfl) dX2_scanPlace_105 ⟨Nat.zero_le _, Nat.zero_le _⟩ (fun H locs hP hD hS => ?_)
          refine lv_if_eq (tgt := 121) hx hb dX2_scanPlace_108 (by decide) (fun c16 => ?_) (fun c16 => ?_)
          · replace hM := if_t c16 hM
            refine lv_aload_n hx hb dX2_scanPlace_121 rfl (lv_at hl 4 rfl) ?_
            refine lv_iconst (v := 3) hx hb dX2_scanPlace_122 (by decide) ?_
            refine lv_iload_n hx hb dX2_scanPlace_123 rfl (lv_at hl 3 rfl) ?_
            refine lv_sipush (v := 256) hx hb dX2_scanPlace_124 (by decide) ?_
            refine lv_iload_n hx hb dX2_scanPlace_127 rfl (lv_at hl 2 rfl) ?_
            refine lv_imul hx hb dX2_scanPlace_128 ?_
            refine lv_lload_n hx hb dX2_scanPlace_129 rfl (lv_at hl 1 rfl) ?_
            refine lv_l2i hx hb dX2_scanPlace_130 rfl ?_
            refine lv_iadd hx hb dX2_scanPlace_131 ?_
            obtain ⟨r17, hcr17, hM⟩ := ob_use hM
            refine cl_V (As := [.int 3, .int o_this.2.1, .int ((256 * r5) + r6.1.toInt32)]) (rest := []) (w_Tokens_this_text cI ad r17 o_text) [] ⟨hx, hb, hml, hown, hts⟩ (c_Tokens_add l D cI sd ad r6.2 3 o_this.2.1 ((256 * r5) + r6.1.toInt32) r17 hcr17) (cwV2 hts q535 mvX2_add rfl rfl ⟨(Nat.le_of_ble_eq_true rfl), (Nat.le_of_ble_eq_true rfl)⟩) hK hE hA hP hD hS 0 (T := TX2) (N := 7) (ci := 2) rfl rfl [0, 1, 2, 3] rfl (by decide) rfl rfl rfl rfl rfl rfl hl.1 (Nat.le_of_ble_eq_true rfl) dX2_scanPlace_132 ⟨Nat.zero_le _, Nat.zero_le _⟩ (fun H locs hP hD hS => ?_)
            cases hM
            exact rt_v hx hb hr hlk hP hD hS rfl dX2_scanPlace_135
          · replace hM := if_f c16 hM
            refine lv_aload_n hx hb dX2_scanPlace_111 rfl (lv_at hl 4 rfl) ?_
            refine lv_iconst (v := 5) hx hb dX2_scanPlace_112 (by decide) ?_
            refine lv_iload_n hx hb dX2_scanPlace_113 rfl (lv_at hl 3 rfl) ?_
            refine lv_iconst (v := 5) hx hb dX2_scanPlace_114 (by decide) ?_
            obtain ⟨r18, hcr18, hM⟩ := ob_use hM
            refine cl_V (As := [.int 5, .int o_this.2.1, .int 5]) (rest := []) (w_Tokens_this_text cI ad r18 o_text) [] ⟨hx, hb, hml, hown, hts⟩ (c_Tokens_add l D cI sd ad r6.2 5 o_this.2.1 5 r18 hcr18) (cwV2 hts q535 mvX2_add rfl rfl ⟨(Nat.le_of_ble_eq_true rfl), (Nat.le_of_ble_eq_true rfl)⟩) hK hE hA hP hD hS 0 (T := TX2) (N := 7) (ci := 2) rfl rfl [0, 1, 2, 3] rfl (by decide) rfl rfl rfl rfl rfl rfl hl.1 (Nat.le_of_ble_eq_true rfl) dX2_scanPlace_115 ⟨Nat.zero_le _, Nat.zero_le _⟩ (fun H locs hP hD hS => ?_)
            refine lv_goto (tgt := 135) hx hb dX2_scanPlace_118 (by decide) ?_
            cases hM
            exact rt_v hx hb hr hlk hP hD hS rfl dX2_scanPlace_135
  · replace hM := if_f c7 hM
    refine lv_sipush (v := 255) hx hb dX2_scanPlace_63 (by decide) ?_
    refine lv_goto (tgt := 71) hx hb dX2_scanPlace_66 (by decide) ?_
    refine lv_istore (lv' := [(5, .int 255), (3, .long r6.1), (2, .int r5), (1, .int o_this.2.1), (0, .ref (ad 10))]) hx hb dX2_scanPlace_71 hl (by decide) rfl (fun ls hl => ?_)
    refine lv_iload_n hx hb dX2_scanPlace_73 rfl (lv_at hl 2 rfl) ?_
    refine lv_iconst (v := (-1)) hx hb dX2_scanPlace_74 (by decide) ?_
    refine lv_icmp_eq (tgt := 111) hx hb dX2_scanPlace_75 (by decide) (fun c19 => ?_) (fun c19 => ?_)
    · replace hM := if_t c19 hM
      refine lv_aload_n hx hb dX2_scanPlace_111 rfl (lv_at hl 4 rfl) ?_
      refine lv_iconst (v := 5) hx hb dX2_scanPlace_112 (by decide) ?_
      refine lv_iload_n hx hb dX2_scanPlace_113 rfl (lv_at hl 3 rfl) ?_
      refine lv_iconst (v := 5) hx hb dX2_scanPlace_114 (by decide) ?_
      obtain ⟨r20, hcr20, hM⟩ := ob_use hM
      refine cl_V (As := [.int 5, .int o_this.2.1, .int 5]) (rest := []) (w_Tokens_this_text cI ad r20 o_text) [] ⟨hx, hb, hml, hown, hts⟩ (c_Tokens_add l D cI sd ad r6.2 5 o_this.2.1 5 r20 hcr20) (cwV2 hts q535 mvX2_add rfl rfl ⟨(Nat.le_of_ble_eq_true rfl), (Nat.le_of_ble_eq_true rfl)⟩) hK hE hA hP hD hS 0 (T := TX2) (N := 7) (ci := 2) rfl rfl [0, 1, 2, 3] rfl (by decide) rfl rfl rfl rfl rfl rfl hl.1 (Nat.le_of_ble_eq_true rfl) dX2_scanPlace_115 ⟨Nat.zero_le _, Nat.zero_le _⟩ (fun H locs hP hD hS => ?_)
      refine lv_goto (tgt := 135) hx hb dX2_scanPlace_118 (by decide) ?_
      cases hM
      exact rt_v hx hb hr hlk hP hD hS rfl dX2_scanPlace_135
    · replace hM := if_f c19 hM
      refine lv_lload_n hx hb dX2_scanPlace_78 rfl (lv_at hl 1 rfl) ?_
      refine lv_ldc2 (v := (-1)) hx hb hown (hts _ (inA q558)) dX2_scanPlace_79 ?_
      refine W.lcmp hx hb dX2_scanPlace_82 ?_
      refine lv_if_eq (tgt := 111) hx hb dX2_scanPlace_83 (by decide) (fun c21 => ?_) (fun c21 => ?_)
      · replace hM := if_t c21 hM
        refine lv_aload_n hx hb dX2_scanPlace_111 rfl (lv_at hl 4 rfl) ?_
        refine lv_iconst (v := 5) hx hb dX2_scanPlace_112 (by decide) ?_
        refine lv_iload_n hx hb dX2_scanPlace_113 rfl (lv_at hl 3 rfl) ?_
        refine lv_iconst (v := 5) hx hb dX2_scanPlace_114 (by decide) ?_
        obtain ⟨r22, hcr22, hM⟩ := ob_use hM
        refine cl_V (As := [.int 5, .int o_this.2.1, .int 5]) (rest := []) (w_Tokens_this_text cI ad r22 o_text) [] ⟨hx, hb, hml, hown, hts⟩ (c_Tokens_add l D cI sd ad r6.2 5 o_this.2.1 5 r22 hcr22) (cwV2 hts q535 mvX2_add rfl rfl ⟨(Nat.le_of_ble_eq_true rfl), (Nat.le_of_ble_eq_true rfl)⟩) hK hE hA hP hD hS 0 (T := TX2) (N := 7) (ci := 2) rfl rfl [0, 1, 2, 3] rfl (by decide) rfl rfl rfl rfl rfl rfl hl.1 (Nat.le_of_ble_eq_true rfl) dX2_scanPlace_115 ⟨Nat.zero_le _, Nat.zero_le _⟩ (fun H locs hP hD hS => ?_)
        refine lv_goto (tgt := 135) hx hb dX2_scanPlace_118 (by decide) ?_
        cases hM
        exact rt_v hx hb hr hlk hP hD hS rfl dX2_scanPlace_135
      · replace hM := if_f c21 hM
        refine lv_lload_n hx hb dX2_scanPlace_86 rfl (lv_at hl 1 rfl) ?_
        refine lv_iload hx hb dX2_scanPlace_87 (lv_at hl 0 rfl) ?_
        refine lv_i2l hx hb dX2_scanPlace_89 rfl ?_
        refine W.lcmp hx hb dX2_scanPlace_90 ?_
        refine lv_if_gt (tgt := 111) hx hb dX2_scanPlace_91 (by decide) (fun c23 => ?_) (fun c23 => ?_)
        · replace hM := if_t c23 hM
          refine lv_aload_n hx hb dX2_scanPlace_111 rfl (lv_at hl 4 rfl) ?_
          refine lv_iconst (v := 5) hx hb dX2_scanPlace_112 (by decide) ?_
          refine lv_iload_n hx hb dX2_scanPlace_113 rfl (lv_at hl 3 rfl) ?_
          refine lv_iconst (v := 5) hx hb dX2_scanPlace_114 (by decide) ?_
          obtain ⟨r24, hcr24, hM⟩ := ob_use hM
          refine cl_V (As := [.int 5, .int o_this.2.1, .int 5]) (rest := []) (w_Tokens_this_text cI ad r24 o_text) [] ⟨hx, hb, hml, hown, hts⟩ (c_Tokens_add l D cI sd ad r6.2 5 o_this.2.1 5 r24 hcr24) (cwV2 hts q535 mvX2_add rfl rfl ⟨(Nat.le_of_ble_eq_true rfl), (Nat.le_of_ble_eq_true rfl)⟩) hK hE hA hP hD hS 0 (T := TX2) (N := 7) (ci := 2) rfl rfl [0, 1, 2, 3] rfl (by decide) rfl rfl rfl rfl rfl rfl hl.1 (Nat.le_of_ble_eq_true rfl) dX2_scanPlace_115 ⟨Nat.zero_le _, Nat.zero_le _⟩ (fun H locs hP hD hS => ?_)
          refine lv_goto (tgt := 135) hx hb dX2_scanPlace_118 (by decide) ?_
          cases hM
          exact rt_v hx hb hr hlk hP hD hS rfl dX2_scanPlace_135
        · replace hM := if_f c23 hM
          refine lv_aload_n hx hb dX2_scanPlace_94 rfl (lv_at hl 4 rfl) ?_
          refine va_get (D := D) (ci := 2) (v := .ref (ad 1)) (C := RX2) (T := TX2) (N := 7) hx hb hts layX2 hown hK hP 0 rfl rfl 0 (by decide) (hts _ (inA q331)) (fun _ h9 => h9) rfl dX2_scanPlace_95 ?_
          refine lv_aload_n hx hb dX2_scanPlace_98 rfl (lv_at hl 4 rfl) ?_
          refine va_get (D := D) (ci := 2) (v := .int r6.2.2.1) (C := RX2) (T := TX2) (N := 7) hx hb hts layX2 hown hK hP 0 rfl rfl 6 (by decide) (hts _ (inA q341)) (fun _ h9 => h9) rfl dX2_scanPlace_99 ?_
          obtain ⟨r25, hcr25, hM⟩ := ob_use hM
          refine cl_V (As := [.int r6.2.2.1]) (rest := []) (w_Tokens_this_text cI ad r6.2 o_text) (.int r25 :: []) ⟨hx, hb, hml, hown, hts⟩ (c_Bytes_get l D cI sd (ad 1) (ad 2) 8192 o_text r6.2.2.1 r25 hcr25) (cwV2 hts q530 mvX0_get rfl rfl ⟨(Nat.le_of_ble_eq_true rfl), (Nat.le_of_ble_eq_true rfl)⟩) hK hE hA hP hD hS 4 (T := TX0) (N := 2) (ci := 0) rfl rfl [4, 5] rfl (by decide) rfl rfl rfl rfl rfl rfl hl.1 (Nat.le_of_ble_eq_true rfl) dX2_scanPlace_102 ⟨Nat.zero_le _, Nat.zero_le _⟩ (fun H locs hP hD hS => ?_)
          obtain ⟨r26, hcr26, hM⟩ := ob_use hM
          refine cl_SN (As := [.int r25]) (rest := []) (w_Tokens_this_text cI ad r6.2 o_text) (.int r26 :: []) ⟨hx, hb, hml, hown, hts⟩ (c_Top_isNameByte l D cI sd ad r25 r26 hcr26) (cwSN2 hts (nmE4 hE) mvX6_isNameByte rfl rfl ⟨(Nat.le_of_ble_eq_true rfl), (Nat.le_of_ble_eq_true rfl)⟩) hK hE hA hP hD hS [] rfl (by decide) rfl rfl rfl rfl rfl rfl hl.1 (Nat.le_of_ble_eq_true rfl) dX2_scanPlace_105 ⟨Nat.zero_le _, Nat.zero_le _⟩ (fun H locs hP hD hS => ?_)
          refine lv_if_eq (tgt := 121) hx hb dX2_scanPlace_108 (by decide) (fun c27 => ?_) (fun c27 => ?_)
          · replace hM := if_t c27 hM
            refine lv_aload_n hx hb dX2_scanPlace_121 rfl (lv_at hl 4 rfl) ?_
            refine lv_iconst (v := 3) hx hb dX2_scanPlace_122 (by decide) ?_
            refine lv_iload_n hx hb dX2_scanPlace_123 rfl (lv_at hl 3 rfl) ?_
            refine lv_sipush (v := 256) hx hb dX2_scanPlace_124 (by decide) ?_
            refine lv_iload_n hx hb dX2_scanPlace_127 rfl (lv_at hl 2 rfl) ?_
            refine lv_imul hx hb dX2_scanPlace_128 ?_
            refine lv_lload_n hx hb dX2_scanPlace_129 rfl (lv_at hl 1 rfl) ?_
            refine lv_l2i hx hb dX2_scanPlace_130 rfl ?_
            refine lv_iadd hx hb dX2_scanPlace_131 ?_
            obtain ⟨r28, hcr28, hM⟩ := ob_use hM
            refine cl_V (As := [.int 3, .int o_this.2.1, .int ((256 * r5) + r6.1.toInt32)]) (rest := []) (w_Tokens_this_text cI ad r28 o_text) [] ⟨hx, hb, hml, hown, hts⟩ (c_Tokens_add l D cI sd ad r6.2 3 o_this.2.1 ((256 * r5) + r6.1.toInt32) r28 hcr28) (cwV2 hts q535 mvX2_add rfl rfl ⟨(Nat.le_of_ble_eq_true rfl), (Nat.le_of_ble_eq_true rfl)⟩) hK hE hA hP hD hS 0 (T := TX2) (N := 7) (ci := 2) rfl rfl [0, 1, 2, 3] rfl (by decide) rfl rfl rfl rfl rfl rfl hl.1 (Nat.le_of_ble_eq_true rfl) dX2_scanPlace_132 ⟨Nat.zero_le _, Nat.zero_le _⟩ (fun H locs hP hD hS => ?_)
            cases hM
            exact rt_v hx hb hr hlk hP hD hS rfl dX2_scanPlace_135
          · replace hM := if_f c27 hM
            refine lv_aload_n hx hb dX2_scanPlace_111 rfl (lv_at hl 4 rfl) ?_
            refine lv_iconst (v := 5) hx hb dX2_scanPlace_112 (by decide) ?_
            refine lv_iload_n hx hb dX2_scanPlace_113 rfl (lv_at hl 3 rfl) ?_
            refine lv_iconst (v := 5) hx hb dX2_scanPlace_114 (by decide) ?_
            obtain ⟨r29, hcr29, hM⟩ := ob_use hM
            refine cl_V (As := [.int 5, .int o_this.2.1, .int 5]) (rest := []) (w_Tokens_this_text cI ad r29 o_text) [] ⟨hx, hb, hml, hown, hts⟩ (c_Tokens_add l D cI sd ad r6.2 5 o_this.2.1 5 r29 hcr29) (cwV2 hts q535 mvX2_add rfl rfl ⟨(Nat.le_of_ble_eq_true rfl), (Nat.le_of_ble_eq_true rfl)⟩) hK hE hA hP hD hS 0 (T := TX2) (N := 7) (ci := 2) rfl rfl [0, 1, 2, 3] rfl (by decide) rfl rfl rfl rfl rfl rfl hl.1 (Nat.le_of_ble_eq_true rfl) dX2_scanPlace_115 ⟨Nat.zero_le _, Nat.zero_le _⟩ (fun H locs hP hD hS => ?_)
            refine lv_goto (tgt := 135) hx hb dX2_scanPlace_118 (by decide) ?_
            cases hM
            exact rt_v hx hb hr hlk hP hD hS rfl dX2_scanPlace_135

set_option maxHeartbeats 4000000 in
set_option maxRecDepth 100000 in
theorem c_Tokens_isSignOfOne (l : Launch) (D : va_G) (cI : ClassId) (sd : Nat → Nat) (ad : Nat → Nat) (a1 : Int32) (res : Int32) (hM : f_Tokens_isSignOfOne a1 = some res) : Ctr l D cI sd yX2_isSignOfOne (wsM yX2_isSignOfOne cX2_isSignOfOne 1 (Option.some Jvm.ClassFile.FieldType.boolean)) { frames := 0, cells := 0, slots := 0, locals := 0 } [.int a1] (([] : va_W)) (([] : va_W)) (some (.int res)) := by
  refine Ctr.of (cc := cX2_isSignOfOne) (maxL := 1) (own := RX2) (by decide +kernel) rfl rfl (Nat.le_of_ble_eq_true rfl) ?_
  intro p e s m below meth c A ls hx hb hr hml hown hts hlk hK hE hA hP hD hS hl
  have hl : lv_has ls 1 [(0, .int a1)] := hl
  unfold f_Tokens_isSignOfOne at hM
  refine lv_iload_n hx hb dX2_isSignOfOne_0 rfl (lv_at hl 0 rfl) ?_
  by_cases c1 : a1 = 38
  · replace hM := if_t c1 hM
    refine lv_lookup (off := 147) (tgt := 148) hx hb dX2_isSignOfOne_1 (by decide) (by exact sw_hit c1 (by decide)) (by decide) ?_
    refine lv_iconst (v := 1) hx hb dX2_isSignOfOne_148 (by decide) ?_
    cases hM
    exact rt_z hx hb hr hlk (by decide) hP hD hS rfl dX2_isSignOfOne_149
  replace hM := if_f c1 hM
  by_cases c2 : a1 = 40
  · replace hM := if_t c2 hM
    refine lv_lookup (off := 147) (tgt := 148) hx hb dX2_isSignOfOne_1 (by decide) (by rw [lv_osw c1 (by decide)]; exact sw_hit c2 (by decide)) (by decide) ?_
    refine lv_iconst (v := 1) hx hb dX2_isSignOfOne_148 (by decide) ?_
    cases hM
    exact rt_z hx hb hr hlk (by decide) hP hD hS rfl dX2_isSignOfOne_149
  replace hM := if_f c2 hM
  by_cases c3 : a1 = 41
  · replace hM := if_t c3 hM
    refine lv_lookup (off := 147) (tgt := 148) hx hb dX2_isSignOfOne_1 (by decide) (by rw [lv_osw c1 (by decide)]; rw [lv_osw c2 (by decide)]; exact sw_hit c3 (by decide)) (by decide) ?_
    refine lv_iconst (v := 1) hx hb dX2_isSignOfOne_148 (by decide) ?_
    cases hM
    exact rt_z hx hb hr hlk (by decide) hP hD hS rfl dX2_isSignOfOne_149
  replace hM := if_f c3 hM
  by_cases c4 : a1 = 42
  · replace hM := if_t c4 hM
    refine lv_lookup (off := 147) (tgt := 148) hx hb dX2_isSignOfOne_1 (by decide) (by rw [lv_osw c1 (by decide)]; rw [lv_osw c2 (by decide)]; rw [lv_osw c3 (by decide)]; exact sw_hit c4 (by decide)) (by decide) ?_
    refine lv_iconst (v := 1) hx hb dX2_isSignOfOne_148 (by decide) ?_
    cases hM
    exact rt_z hx hb hr hlk (by decide) hP hD hS rfl dX2_isSignOfOne_149
  replace hM := if_f c4 hM
  by_cases c5 : a1 = 43
  · replace hM := if_t c5 hM
    refine lv_lookup (off := 147) (tgt := 148) hx hb dX2_isSignOfOne_1 (by decide) (by rw [lv_osw c1 (by decide)]; rw [lv_osw c2 (by decide)]; rw [lv_osw c3 (by decide)]; rw [lv_osw c4 (by decide)]; exact sw_hit c5 (by decide)) (by decide) ?_
    refine lv_iconst (v := 1) hx hb dX2_isSignOfOne_148 (by decide) ?_
    cases hM
    exact rt_z hx hb hr hlk (by decide) hP hD hS rfl dX2_isSignOfOne_149
  replace hM := if_f c5 hM
  by_cases c6 : a1 = 44
  · replace hM := if_t c6 hM
    refine lv_lookup (off := 147) (tgt := 148) hx hb dX2_isSignOfOne_1 (by decide) (by rw [lv_osw c1 (by decide)]; rw [lv_osw c2 (by decide)]; rw [lv_osw c3 (by decide)]; rw [lv_osw c4 (by decide)]; rw [lv_osw c5 (by decide)]; exact sw_hit c6 (by decide)) (by decide) ?_
    refine lv_iconst (v := 1) hx hb dX2_isSignOfOne_148 (by decide) ?_
    cases hM
    exact rt_z hx hb hr hlk (by decide) hP hD hS rfl dX2_isSignOfOne_149
  replace hM := if_f c6 hM
  by_cases c7 : a1 = 45
  · replace hM := if_t c7 hM
    refine lv_lookup (off := 147) (tgt := 148) hx hb dX2_isSignOfOne_1 (by decide) (by rw [lv_osw c1 (by decide)]; rw [lv_osw c2 (by decide)]; rw [lv_osw c3 (by decide)]; rw [lv_osw c4 (by decide)]; rw [lv_osw c5 (by decide)]; rw [lv_osw c6 (by decide)]; exact sw_hit c7 (by decide)) (by decide) ?_
    refine lv_iconst (v := 1) hx hb dX2_isSignOfOne_148 (by decide) ?_
    cases hM
    exact rt_z hx hb hr hlk (by decide) hP hD hS rfl dX2_isSignOfOne_149
  replace hM := if_f c7 hM
  by_cases c8 : a1 = 46
  · replace hM := if_t c8 hM
    refine lv_lookup (off := 147) (tgt := 148) hx hb dX2_isSignOfOne_1 (by decide) (by rw [lv_osw c1 (by decide)]; rw [lv_osw c2 (by decide)]; rw [lv_osw c3 (by decide)]; rw [lv_osw c4 (by decide)]; rw [lv_osw c5 (by decide)]; rw [lv_osw c6 (by decide)]; rw [lv_osw c7 (by decide)]; exact sw_hit c8 (by decide)) (by decide) ?_
    refine lv_iconst (v := 1) hx hb dX2_isSignOfOne_148 (by decide) ?_
    cases hM
    exact rt_z hx hb hr hlk (by decide) hP hD hS rfl dX2_isSignOfOne_149
  replace hM := if_f c8 hM
  by_cases c9 : a1 = 47
  · replace hM := if_t c9 hM
    refine lv_lookup (off := 147) (tgt := 148) hx hb dX2_isSignOfOne_1 (by decide) (by rw [lv_osw c1 (by decide)]; rw [lv_osw c2 (by decide)]; rw [lv_osw c3 (by decide)]; rw [lv_osw c4 (by decide)]; rw [lv_osw c5 (by decide)]; rw [lv_osw c6 (by decide)]; rw [lv_osw c7 (by decide)]; rw [lv_osw c8 (by decide)]; exact sw_hit c9 (by decide)) (by decide) ?_
    refine lv_iconst (v := 1) hx hb dX2_isSignOfOne_148 (by decide) ?_
    cases hM
    exact rt_z hx hb hr hlk (by decide) hP hD hS rfl dX2_isSignOfOne_149
  replace hM := if_f c9 hM
  by_cases c10 : a1 = 58
  · replace hM := if_t c10 hM
    refine lv_lookup (off := 147) (tgt := 148) hx hb dX2_isSignOfOne_1 (by decide) (by rw [lv_osw c1 (by decide)]; rw [lv_osw c2 (by decide)]; rw [lv_osw c3 (by decide)]; rw [lv_osw c4 (by decide)]; rw [lv_osw c5 (by decide)]; rw [lv_osw c6 (by decide)]; rw [lv_osw c7 (by decide)]; rw [lv_osw c8 (by decide)]; rw [lv_osw c9 (by decide)]; exact sw_hit c10 (by decide)) (by decide) ?_
    refine lv_iconst (v := 1) hx hb dX2_isSignOfOne_148 (by decide) ?_
    cases hM
    exact rt_z hx hb hr hlk (by decide) hP hD hS rfl dX2_isSignOfOne_149
  replace hM := if_f c10 hM
  by_cases c11 : a1 = 59
  · replace hM := if_t c11 hM
    refine lv_lookup (off := 147) (tgt := 148) hx hb dX2_isSignOfOne_1 (by decide) (by rw [lv_osw c1 (by decide)]; rw [lv_osw c2 (by decide)]; rw [lv_osw c3 (by decide)]; rw [lv_osw c4 (by decide)]; rw [lv_osw c5 (by decide)]; rw [lv_osw c6 (by decide)]; rw [lv_osw c7 (by decide)]; rw [lv_osw c8 (by decide)]; rw [lv_osw c9 (by decide)]; rw [lv_osw c10 (by decide)]; exact sw_hit c11 (by decide)) (by decide) ?_
    refine lv_iconst (v := 1) hx hb dX2_isSignOfOne_148 (by decide) ?_
    cases hM
    exact rt_z hx hb hr hlk (by decide) hP hD hS rfl dX2_isSignOfOne_149
  replace hM := if_f c11 hM
  by_cases c12 : a1 = 60
  · replace hM := if_t c12 hM
    refine lv_lookup (off := 147) (tgt := 148) hx hb dX2_isSignOfOne_1 (by decide) (by rw [lv_osw c1 (by decide)]; rw [lv_osw c2 (by decide)]; rw [lv_osw c3 (by decide)]; rw [lv_osw c4 (by decide)]; rw [lv_osw c5 (by decide)]; rw [lv_osw c6 (by decide)]; rw [lv_osw c7 (by decide)]; rw [lv_osw c8 (by decide)]; rw [lv_osw c9 (by decide)]; rw [lv_osw c10 (by decide)]; rw [lv_osw c11 (by decide)]; exact sw_hit c12 (by decide)) (by decide) ?_
    refine lv_iconst (v := 1) hx hb dX2_isSignOfOne_148 (by decide) ?_
    cases hM
    exact rt_z hx hb hr hlk (by decide) hP hD hS rfl dX2_isSignOfOne_149
  replace hM := if_f c12 hM
  by_cases c13 : a1 = 61
  · replace hM := if_t c13 hM
    refine lv_lookup (off := 147) (tgt := 148) hx hb dX2_isSignOfOne_1 (by decide) (by rw [lv_osw c1 (by decide)]; rw [lv_osw c2 (by decide)]; rw [lv_osw c3 (by decide)]; rw [lv_osw c4 (by decide)]; rw [lv_osw c5 (by decide)]; rw [lv_osw c6 (by decide)]; rw [lv_osw c7 (by decide)]; rw [lv_osw c8 (by decide)]; rw [lv_osw c9 (by decide)]; rw [lv_osw c10 (by decide)]; rw [lv_osw c11 (by decide)]; rw [lv_osw c12 (by decide)]; exact sw_hit c13 (by decide)) (by decide) ?_
    refine lv_iconst (v := 1) hx hb dX2_isSignOfOne_148 (by decide) ?_
    cases hM
    exact rt_z hx hb hr hlk (by decide) hP hD hS rfl dX2_isSignOfOne_149
  replace hM := if_f c13 hM
  by_cases c14 : a1 = 62
  · replace hM := if_t c14 hM
    refine lv_lookup (off := 147) (tgt := 148) hx hb dX2_isSignOfOne_1 (by decide) (by rw [lv_osw c1 (by decide)]; rw [lv_osw c2 (by decide)]; rw [lv_osw c3 (by decide)]; rw [lv_osw c4 (by decide)]; rw [lv_osw c5 (by decide)]; rw [lv_osw c6 (by decide)]; rw [lv_osw c7 (by decide)]; rw [lv_osw c8 (by decide)]; rw [lv_osw c9 (by decide)]; rw [lv_osw c10 (by decide)]; rw [lv_osw c11 (by decide)]; rw [lv_osw c12 (by decide)]; rw [lv_osw c13 (by decide)]; exact sw_hit c14 (by decide)) (by decide) ?_
    refine lv_iconst (v := 1) hx hb dX2_isSignOfOne_148 (by decide) ?_
    cases hM
    exact rt_z hx hb hr hlk (by decide) hP hD hS rfl dX2_isSignOfOne_149
  replace hM := if_f c14 hM
  by_cases c15 : a1 = 91
  · replace hM := if_t c15 hM
    refine lv_lookup (off := 147) (tgt := 148) hx hb dX2_isSignOfOne_1 (by decide) (by rw [lv_osw c1 (by decide)]; rw [lv_osw c2 (by decide)]; rw [lv_osw c3 (by decide)]; rw [lv_osw c4 (by decide)]; rw [lv_osw c5 (by decide)]; rw [lv_osw c6 (by decide)]; rw [lv_osw c7 (by decide)]; rw [lv_osw c8 (by decide)]; rw [lv_osw c9 (by decide)]; rw [lv_osw c10 (by decide)]; rw [lv_osw c11 (by decide)]; rw [lv_osw c12 (by decide)]; rw [lv_osw c13 (by decide)]; rw [lv_osw c14 (by decide)]; exact sw_hit c15 (by decide)) (by decide) ?_
    refine lv_iconst (v := 1) hx hb dX2_isSignOfOne_148 (by decide) ?_
    cases hM
    exact rt_z hx hb hr hlk (by decide) hP hD hS rfl dX2_isSignOfOne_149
  replace hM := if_f c15 hM
  by_cases c16 : a1 = 93
  · replace hM := if_t c16 hM
    refine lv_lookup (off := 147) (tgt := 148) hx hb dX2_isSignOfOne_1 (by decide) (by rw [lv_osw c1 (by decide)]; rw [lv_osw c2 (by decide)]; rw [lv_osw c3 (by decide)]; rw [lv_osw c4 (by decide)]; rw [lv_osw c5 (by decide)]; rw [lv_osw c6 (by decide)]; rw [lv_osw c7 (by decide)]; rw [lv_osw c8 (by decide)]; rw [lv_osw c9 (by decide)]; rw [lv_osw c10 (by decide)]; rw [lv_osw c11 (by decide)]; rw [lv_osw c12 (by decide)]; rw [lv_osw c13 (by decide)]; rw [lv_osw c14 (by decide)]; rw [lv_osw c15 (by decide)]; exact sw_hit c16 (by decide)) (by decide) ?_
    refine lv_iconst (v := 1) hx hb dX2_isSignOfOne_148 (by decide) ?_
    cases hM
    exact rt_z hx hb hr hlk (by decide) hP hD hS rfl dX2_isSignOfOne_149
  replace hM := if_f c16 hM
  by_cases c17 : a1 = 124
  · replace hM := if_t c17 hM
    refine lv_lookup (off := 147) (tgt := 148) hx hb dX2_isSignOfOne_1 (by decide) (by rw [lv_osw c1 (by decide)]; rw [lv_osw c2 (by decide)]; rw [lv_osw c3 (by decide)]; rw [lv_osw c4 (by decide)]; rw [lv_osw c5 (by decide)]; rw [lv_osw c6 (by decide)]; rw [lv_osw c7 (by decide)]; rw [lv_osw c8 (by decide)]; rw [lv_osw c9 (by decide)]; rw [lv_osw c10 (by decide)]; rw [lv_osw c11 (by decide)]; rw [lv_osw c12 (by decide)]; rw [lv_osw c13 (by decide)]; rw [lv_osw c14 (by decide)]; rw [lv_osw c15 (by decide)]; rw [lv_osw c16 (by decide)]; exact sw_hit c17 (by decide)) (by decide) ?_
    refine lv_iconst (v := 1) hx hb dX2_isSignOfOne_148 (by decide) ?_
    cases hM
    exact rt_z hx hb hr hlk (by decide) hP hD hS rfl dX2_isSignOfOne_149
  replace hM := if_f c17 hM
  refine lv_lookup (off := 149) (tgt := 150) hx hb dX2_isSignOfOne_1 (by decide) (by rw [lv_osw c1 (by decide)]; rw [lv_osw c2 (by decide)]; rw [lv_osw c3 (by decide)]; rw [lv_osw c4 (by decide)]; rw [lv_osw c5 (by decide)]; rw [lv_osw c6 (by decide)]; rw [lv_osw c7 (by decide)]; rw [lv_osw c8 (by decide)]; rw [lv_osw c9 (by decide)]; rw [lv_osw c10 (by decide)]; rw [lv_osw c11 (by decide)]; rw [lv_osw c12 (by decide)]; rw [lv_osw c13 (by decide)]; rw [lv_osw c14 (by decide)]; rw [lv_osw c15 (by decide)]; rw [lv_osw c16 (by decide)]; rw [lv_osw c17 (by decide)]; rfl) (by decide) ?_
  refine lv_iconst (v := 0) hx hb dX2_isSignOfOne_150 (by decide) ?_
  cases hM
  exact rt_z hx hb hr hlk (by decide) hP hD hS rfl dX2_isSignOfOne_151

set_option maxHeartbeats 4000000 in
set_option maxRecDepth 100000 in
theorem c_Tokens_isSignOfTwo (l : Launch) (D : va_G) (cI : ClassId) (sd : Nat → Nat) (ad : Nat → Nat) (a1 : Int32) (res : Int32) (hM : f_Tokens_isSignOfTwo a1 = some res) : Ctr l D cI sd yX2_isSignOfTwo (wsM yX2_isSignOfTwo cX2_isSignOfTwo 1 (Option.some Jvm.ClassFile.FieldType.boolean)) { frames := 0, cells := 0, slots := 0, locals := 0 } [.int a1] (([] : va_W)) (([] : va_W)) (some (.int res)) := by
  refine Ctr.of (cc := cX2_isSignOfTwo) (maxL := 1) (own := RX2) (by decide +kernel) rfl rfl (Nat.le_of_ble_eq_true rfl) ?_
  intro p e s m below meth c A ls hx hb hr hml hown hts hlk hK hE hA hP hD hS hl
  have hl : lv_has ls 1 [(0, .int a1)] := hl
  unfold f_Tokens_isSignOfTwo at hM
  refine lv_iload_n hx hb dX2_isSignOfTwo_0 rfl (lv_at hl 0 rfl) ?_
  refine lv_sipush (v := 14909) hx hb dX2_isSignOfTwo_1 (by decide) ?_
  refine lv_icmp_eq (tgt := 35) hx hb dX2_isSignOfTwo_4 (by decide) (fun c1 => ?_) (fun c1 => ?_)
  · replace hM := if_t c1 hM
    refine lv_iconst (v := 1) hx hb dX2_isSignOfTwo_35 (by decide) ?_
    refine lv_goto (tgt := 40) hx hb dX2_isSignOfTwo_36 (by decide) ?_
    cases hM
    exact rt_z hx hb hr hlk (by decide) hP hD hS rfl dX2_isSignOfTwo_40
  · replace hM := if_f c1 hM
    refine lv_iload_n hx hb dX2_isSignOfTwo_7 rfl (lv_at hl 0 rfl) ?_
    refine lv_sipush (v := 11822) hx hb dX2_isSignOfTwo_8 (by decide) ?_
    refine lv_icmp_eq (tgt := 35) hx hb dX2_isSignOfTwo_11 (by decide) (fun c2 => ?_) (fun c2 => ?_)
    · replace hM := if_t c2 hM
      refine lv_iconst (v := 1) hx hb dX2_isSignOfTwo_35 (by decide) ?_
      refine lv_goto (tgt := 40) hx hb dX2_isSignOfTwo_36 (by decide) ?_
      cases hM
      exact rt_z hx hb hr hlk (by decide) hP hD hS rfl dX2_isSignOfTwo_40
    · replace hM := if_f c2 hM
      refine lv_iload_n hx hb dX2_isSignOfTwo_14 rfl (lv_at hl 0 rfl) ?_
      refine lv_sipush (v := 15421) hx hb dX2_isSignOfTwo_15 (by decide) ?_
      refine lv_icmp_eq (tgt := 35) hx hb dX2_isSignOfTwo_18 (by decide) (fun c3 => ?_) (fun c3 => ?_)
      · replace hM := if_t c3 hM
        refine lv_iconst (v := 1) hx hb dX2_isSignOfTwo_35 (by decide) ?_
        refine lv_goto (tgt := 40) hx hb dX2_isSignOfTwo_36 (by decide) ?_
        cases hM
        exact rt_z hx hb hr hlk (by decide) hP hD hS rfl dX2_isSignOfTwo_40
      · replace hM := if_f c3 hM
        refine lv_iload_n hx hb dX2_isSignOfTwo_21 rfl (lv_at hl 0 rfl) ?_
        refine lv_sipush (v := 15933) hx hb dX2_isSignOfTwo_22 (by decide) ?_
        refine lv_icmp_eq (tgt := 35) hx hb dX2_isSignOfTwo_25 (by decide) (fun c4 => ?_) (fun c4 => ?_)
        · replace hM := if_t c4 hM
          refine lv_iconst (v := 1) hx hb dX2_isSignOfTwo_35 (by decide) ?_
          refine lv_goto (tgt := 40) hx hb dX2_isSignOfTwo_36 (by decide) ?_
          cases hM
          exact rt_z hx hb hr hlk (by decide) hP hD hS rfl dX2_isSignOfTwo_40
        · replace hM := if_f c4 hM
          refine lv_iload_n hx hb dX2_isSignOfTwo_28 rfl (lv_at hl 0 rfl) ?_
          refine lv_sipush (v := 15422) hx hb dX2_isSignOfTwo_29 (by decide) ?_
          refine lv_icmp_ne (tgt := 39) hx hb dX2_isSignOfTwo_32 (by decide) (fun c5 => ?_) (fun c5 => ?_)
          · replace hM := if_f c5 hM
            refine lv_iconst (v := 0) hx hb dX2_isSignOfTwo_39 (by decide) ?_
            cases hM
            exact rt_z hx hb hr hlk (by decide) hP hD hS rfl dX2_isSignOfTwo_40
          · replace hM := if_t c5 hM
            refine lv_iconst (v := 1) hx hb dX2_isSignOfTwo_35 (by decide) ?_
            refine lv_goto (tgt := 40) hx hb dX2_isSignOfTwo_36 (by decide) ?_
            cases hM
            exact rt_z hx hb hr hlk (by decide) hP hD hS rfl dX2_isSignOfTwo_40

set_option maxHeartbeats 4000000 in
set_option maxRecDepth 100000 in
theorem c_Tokens_scanSign (l : Launch) (D : va_G) (cI : ClassId) (sd : Nat → Nat) (ad : Nat → Nat) (o_this : S_Tokens) (o_text : S_Bytes) (res : S_Tokens) (hM : f_Tokens_scanSign o_this o_text = some res) : Ctr l D cI sd yX2_scanSign (wsM yX2_scanSign cX2_scanSign 4 (Option.none : Option Jvm.ClassFile.FieldType)) { frames := 1, cells := 0, slots := 0, locals := 23 } [.ref (ad 10)] (w_Tokens_this_text cI ad o_this o_text) (w_Tokens_this_text cI ad res o_text) none := by
  refine Ctr.of (cc := cX2_scanSign) (maxL := 4) (own := RX2) (by decide +kernel) rfl rfl (Nat.le_of_ble_eq_true rfl) ?_
  intro p e s m below meth c A ls hx hb hr hml hown hts hlk hK hE hA hP hD hS hl
  have hl : lv_has ls 4 [(0, .ref (ad 10))] := hl
  unfold f_Tokens_scanSign at hM
  refine lv_aload_n hx hb dX2_scanSign_0 rfl (lv_at hl 0 rfl) ?_
  refine va_get (D := D) (ci := 2) (v := .int o_this.2.1) (C := RX2) (T := TX2) (N := 7) hx hb hts layX2 hown hK hP 0 rfl rfl 6 (by decide) (hts _ (inA q341)) (fun _ h9 => h9) rfl dX2_scanSign_1 ?_
  refine lv_istore_n (lv' := [(1, .int o_this.2.1), (0, .ref (ad 10))]) hx hb dX2_scanSign_4 rfl hl (by decide) rfl (fun ls hl => ?_)
  refine lv_aload_n hx hb dX2_scanSign_5 rfl (lv_at hl 1 rfl) ?_
  refine va_get (D := D) (ci := 2) (v := .ref (ad 1)) (C := RX2) (T := TX2) (N := 7) hx hb hts layX2 hown hK hP 0 rfl rfl 0 (by decide) (hts _ (inA q331)) (fun _ h9 => h9) rfl dX2_scanSign_6 ?_
  refine lv_aload_n hx hb dX2_scanSign_9 rfl (lv_at hl 1 rfl) ?_
  refine va_get (D := D) (ci := 2) (v := .int o_this.2.1) (C := RX2) (T := TX2) (N := 7) hx hb hts layX2 hown hK hP 0 rfl rfl 6 (by decide) (hts _ (inA q341)) (fun _ h9 => h9) rfl dX2_scanSign_10 ?_
  obtain ⟨r1, hcr1, hM⟩ := ob_use hM
  refine cl_V (As := [.int o_this.2.1]) (rest := []) (w_Tokens_this_text cI ad o_this o_text) (.int r1 :: []) ⟨hx, hb, hml, hown, hts⟩ (c_Bytes_get l D cI sd (ad 1) (ad 2) 8192 o_text o_this.2.1 r1 hcr1) (cwV2 hts q530 mvX0_get rfl rfl ⟨(Nat.le_of_ble_eq_true rfl), (Nat.le_of_ble_eq_true rfl)⟩) hK hE hA hP hD hS 4 (T := TX0) (N := 2) (ci := 0) rfl rfl [4, 5] rfl (by decide) rfl rfl rfl rfl rfl rfl hl.1 (Nat.le_of_ble_eq_true rfl) dX2_scanSign_13 ⟨Nat.zero_le _, Nat.zero_le _⟩ (fun H locs hP hD hS => ?_)
  refine lv_istore_n (lv' := [(2, .int r1), (1, .int o_this.2.1), (0, .ref (ad 10))]) hx hb dX2_scanSign_16 rfl hl (by decide) rfl (fun ls hl => ?_)
  refine lv_iload_n hx hb dX2_scanSign_17 rfl (lv_at hl 0 rfl) ?_
  refine lv_bipush (v := 8) hx hb dX2_scanSign_18 (by decide) ?_
  refine lv_ishl hx hb dX2_scanSign_20 ?_
  refine lv_iconst (v := 0) hx hb dX2_scanSign_21 (by decide) ?_
  refine lv_aload_n hx hb dX2_scanSign_22 rfl (lv_at hl 2 rfl) ?_
  refine va_get (D := D) (ci := 2) (v := .ref (ad 1)) (C := RX2) (T := TX2) (N := 7) hx hb hts layX2 hown hK hP 0 rfl rfl 0 (by decide) (hts _ (inA q331)) (fun _ h9 => h9) rfl dX2_scanSign_23 ?_
  refine lv_aload_n hx hb dX2_scanSign_26 rfl (lv_at hl 2 rfl) ?_
  refine va_get (D := D) (ci := 2) (v := .int o_this.2.1) (C := RX2) (T := TX2) (N := 7) hx hb hts layX2 hown hK hP 0 rfl rfl 6 (by decide) (hts _ (inA q341)) (fun _ h9 => h9) rfl dX2_scanSign_27 ?_
  refine lv_iconst (v := 1) hx hb dX2_scanSign_30 (by decide) ?_
  refine lv_iadd hx hb dX2_scanSign_31 ?_
  obtain ⟨r2, hcr2, hM⟩ := ob_use hM
  refine cl_V (As := [.int (o_this.2.1 + 1)]) (rest := [.int 0, .int (r1 <<< (8 &&& 31))]) (w_Tokens_this_text cI ad o_this o_text) (.int r2 :: [.int 0, .int (r1 <<< (8 &&& 31))]) ⟨hx, hb, hml, hown, hts⟩ (c_Bytes_get l D cI sd (ad 1) (ad 2) 8192 o_text (o_this.2.1 + 1) r2 hcr2) (cwV2 hts q530 mvX0_get rfl rfl ⟨(Nat.le_of_ble_eq_true rfl), (Nat.le_of_ble_eq_true rfl)⟩) hK hE hA hP hD hS 4 (T := TX0) (N := 2) (ci := 0) rfl rfl [4, 5] rfl (by decide) rfl rfl rfl rfl rfl rfl hl.1 (Nat.le_of_ble_eq_true rfl) dX2_scanSign_32 ⟨Nat.zero_le _, Nat.zero_le _⟩ (fun H locs hP hD hS => ?_)
  obtain ⟨r3, hcr3, hM⟩ := ob_use hM
  refine cl_S (As := [.int 0, .int r2]) (rest := [.int (r1 <<< (8 &&& 31))]) (w_Tokens_this_text cI ad o_this o_text) (.int r3 :: [.int (r1 <<< (8 &&& 31))]) ⟨hx, hb, hml, hown, hts⟩ (c_Math_max l D cI sd ad 0 r2 r3 hcr3) (cwS2 hts q597 mvX10_max rfl rfl ⟨(Nat.le_of_ble_eq_true rfl), (Nat.le_of_ble_eq_true rfl)⟩) hK hE hA hP hD hS [] rfl (by decide) rfl rfl rfl rfl rfl rfl hl.1 (Nat.le_of_ble_eq_true rfl) dX2_scanSign_35 ⟨Nat.zero_le _, Nat.zero_le _⟩ (fun H locs hP hD hS => ?_)
  refine lv_ior hx hb dX2_scanSign_38 ?_
  refine lv_topi (fun x4 ex4 => ?_)
  replace hM := nm_use ex4 hM
  refine lv_istore_n (lv' := [(3, .int x4), (2, .int r1), (1, .int o_this.2.1), (0, .ref (ad 10))]) hx hb dX2_scanSign_39 rfl hl (by decide) rfl (fun ls hl => ?_)
  refine lv_iload_n hx hb dX2_scanSign_40 rfl (lv_at hl 0 rfl) ?_
  obtain ⟨r5, hcr5, hM⟩ := ob_use hM
  refine cl_S (As := [.int x4]) (rest := []) (w_Tokens_this_text cI ad o_this o_text) (.int r5 :: []) ⟨hx, hb, hml, hown, hts⟩ (c_Tokens_isSignOfTwo l D cI sd ad x4 r5 hcr5) (cwS2 hts q600 mvX2_isSignOfTwo rfl rfl ⟨(Nat.le_of_ble_eq_true rfl), (Nat.le_of_ble_eq_true rfl)⟩) hK hE hA hP hD hS [] rfl (by decide) rfl rfl rfl rfl rfl rfl hl.1 (Nat.le_of_ble_eq_true rfl) dX2_scanSign_41 ⟨Nat.zero_le _, Nat.zero_le _⟩ (fun H locs hP hD hS => ?_)
  refine lv_if_eq (tgt := 67) hx hb dX2_scanSign_44 (by decide) (fun c6 => ?_) (fun c6 => ?_)
  · replace hM := if_t c6 hM
    refine lv_iload_n hx hb dX2_scanSign_67 rfl (lv_at hl 1 rfl) ?_
    obtain ⟨r7, hcr7, hM⟩ := ob_use hM
    refine cl_S (As := [.int r1]) (rest := []) (w_Tokens_this_text cI ad o_this o_text) (.int r7 :: []) ⟨hx, hb, hml, hown, hts⟩ (c_Tokens_isSignOfOne l D cI sd ad r1 r7 hcr7) (cwS2 hts q603 mvX2_isSignOfOne rfl rfl ⟨(Nat.le_of_ble_eq_true rfl), (Nat.le_of_ble_eq_true rfl)⟩) hK hE hA hP hD hS [] rfl (by decide) rfl rfl rfl rfl rfl rfl hl.1 (Nat.le_of_ble_eq_true rfl) dX2_scanSign_68 ⟨Nat.zero_le _, Nat.zero_le _⟩ (fun H locs hP hD hS => ?_)
    refine lv_if_eq (tgt := 94) hx hb dX2_scanSign_71 (by decide) (fun c8 => ?_) (fun c8 => ?_)
    · replace hM := if_t c8 hM
      refine lv_aload_n hx hb dX2_scanSign_94 rfl (lv_at hl 3 rfl) ?_
      refine lv_iconst (v := 5) hx hb dX2_scanSign_95 (by decide) ?_
      refine lv_iload_n hx hb dX2_scanSign_96 rfl (lv_at hl 2 rfl) ?_
      refine lv_iconst (v := 1) hx hb dX2_scanSign_97 (by decide) ?_
      obtain ⟨r9, hcr9, hM⟩ := ob_use hM
      refine cl_V (As := [.int 5, .int o_this.2.1, .int 1]) (rest := []) (w_Tokens_this_text cI ad r9 o_text) [] ⟨hx, hb, hml, hown, hts⟩ (c_Tokens_add l D cI sd ad o_this 5 o_this.2.1 1 r9 hcr9) (cwV2 hts q535 mvX2_add rfl rfl ⟨(Nat.le_of_ble_eq_true rfl), (Nat.le_of_ble_eq_true rfl)⟩) hK hE hA hP hD hS 0 (T := TX2) (N := 7) (ci := 2) rfl rfl [0, 1, 2, 3] rfl (by decide) rfl rfl rfl rfl rfl rfl hl.1 (Nat.le_of_ble_eq_true rfl) dX2_scanSign_98 ⟨Nat.zero_le _, Nat.zero_le _⟩ (fun H locs hP hD hS => ?_)
      cases hM
      exact rt_v hx hb hr hlk hP hD hS rfl dX2_scanSign_101
    · replace hM := if_f c8 hM
      refine lv_aload_n hx hb dX2_scanSign_74 rfl (lv_at hl 3 rfl) ?_
      refine lv_dup hx hb dX2_scanSign_75 rfl ?_
      refine va_get (D := D) (ci := 2) (v := .int o_this.2.1) (C := RX2) (T := TX2) (N := 7) hx hb hts layX2 hown hK hP 0 rfl rfl 6 (by decide) (hts _ (inA q341)) (fun _ h9 => h9) rfl dX2_scanSign_76 ?_
      refine lv_iconst (v := 1) hx hb dX2_scanSign_79 (by decide) ?_
      refine lv_iadd hx hb dX2_scanSign_80 ?_
      refine va_put (D := D) (ci := 2) (v := .int (o_this.2.1 + 1)) (ty := .int) (C := RX2) (T := TX2) (N := 7) hx hb hts layX2 tyX2 tyX2_ok nmX2 hown hK hP hD hS 0 rfl rfl 6 (by decide) (hts _ (inA q341)) (fun _ h9 => h9) rfl (by decide +kernel) rfl rfl (Nat.le_of_ble_eq_true rfl) dX2_scanSign_81 (fun H locs hP hD hS => ?_)
      have hP : va_P D vwCl (w_Tokens_this_text cI ad (o_this.1, o_this.2.1 + 1, o_this.2.2) o_text) H := hP
      have hD : va_D A (w_Tokens_this_text cI ad (o_this.1, o_this.2.1 + 1, o_this.2.2) o_text) := hD
      refine lv_aload_n hx hb dX2_scanSign_84 rfl (lv_at hl 3 rfl) ?_
      refine lv_iload_n hx hb dX2_scanSign_85 rfl (lv_at hl 1 rfl) ?_
      refine lv_iload_n hx hb dX2_scanSign_86 rfl (lv_at hl 2 rfl) ?_
      refine lv_iconst (v := 0) hx hb dX2_scanSign_87 (by decide) ?_
      obtain ⟨r10, hcr10, hM⟩ := ob_use hM
      refine cl_V (As := [.int r1, .int o_this.2.1, .int 0]) (rest := []) (w_Tokens_this_text cI ad r10 o_text) [] ⟨hx, hb, hml, hown, hts⟩ (c_Tokens_add l D cI sd ad (o_this.1, o_this.2.1 + 1, o_this.2.2) r1 o_this.2.1 0 r10 hcr10) (cwV2 hts q535 mvX2_add rfl rfl ⟨(Nat.le_of_ble_eq_true rfl), (Nat.le_of_ble_eq_true rfl)⟩) hK hE hA hP hD hS 0 (T := TX2) (N := 7) (ci := 2) rfl rfl [0, 1, 2, 3] rfl (by decide) rfl rfl rfl rfl rfl rfl hl.1 (Nat.le_of_ble_eq_true rfl) dX2_scanSign_88 ⟨Nat.zero_le _, Nat.zero_le _⟩ (fun H locs hP hD hS => ?_)
      refine lv_goto (tgt := 101) hx hb dX2_scanSign_91 (by decide) ?_
      cases hM
      exact rt_v hx hb hr hlk hP hD hS rfl dX2_scanSign_101
  · replace hM := if_f c6 hM
    refine lv_aload_n hx hb dX2_scanSign_47 rfl (lv_at hl 3 rfl) ?_
    refine lv_dup hx hb dX2_scanSign_48 rfl ?_
    refine va_get (D := D) (ci := 2) (v := .int o_this.2.1) (C := RX2) (T := TX2) (N := 7) hx hb hts layX2 hown hK hP 0 rfl rfl 6 (by decide) (hts _ (inA q341)) (fun _ h9 => h9) rfl dX2_scanSign_49 ?_
    refine lv_iconst (v := 2) hx hb dX2_scanSign_52 (by decide) ?_
    refine lv_iadd hx hb dX2_scanSign_53 ?_
    refine va_put (D := D) (ci := 2) (v := .int (o_this.2.1 + 2)) (ty := .int) (C := RX2) (T := TX2) (N := 7) hx hb hts layX2 tyX2 tyX2_ok nmX2 hown hK hP hD hS 0 rfl rfl 6 (by decide) (hts _ (inA q341)) (fun _ h9 => h9) rfl (by decide +kernel) rfl rfl (Nat.le_of_ble_eq_true rfl) dX2_scanSign_54 (fun H locs hP hD hS => ?_)
    have hP : va_P D vwCl (w_Tokens_this_text cI ad (o_this.1, o_this.2.1 + 2, o_this.2.2) o_text) H := hP
    have hD : va_D A (w_Tokens_this_text cI ad (o_this.1, o_this.2.1 + 2, o_this.2.2) o_text) := hD
    refine lv_aload_n hx hb dX2_scanSign_57 rfl (lv_at hl 3 rfl) ?_
    refine lv_iload_n hx hb dX2_scanSign_58 rfl (lv_at hl 0 rfl) ?_
    refine lv_iload_n hx hb dX2_scanSign_59 rfl (lv_at hl 2 rfl) ?_
    refine lv_iconst (v := 0) hx hb dX2_scanSign_60 (by decide) ?_
    obtain ⟨r11, hcr11, hM⟩ := ob_use hM
    refine cl_V (As := [.int x4, .int o_this.2.1, .int 0]) (rest := []) (w_Tokens_this_text cI ad r11 o_text) [] ⟨hx, hb, hml, hown, hts⟩ (c_Tokens_add l D cI sd ad (o_this.1, o_this.2.1 + 2, o_this.2.2) x4 o_this.2.1 0 r11 hcr11) (cwV2 hts q535 mvX2_add rfl rfl ⟨(Nat.le_of_ble_eq_true rfl), (Nat.le_of_ble_eq_true rfl)⟩) hK hE hA hP hD hS 0 (T := TX2) (N := 7) (ci := 2) rfl rfl [0, 1, 2, 3] rfl (by decide) rfl rfl rfl rfl rfl rfl hl.1 (Nat.le_of_ble_eq_true rfl) dX2_scanSign_61 ⟨Nat.zero_le _, Nat.zero_le _⟩ (fun H locs hP hD hS => ?_)
    refine lv_goto (tgt := 101) hx hb dX2_scanSign_64 (by decide) ?_
    cases hM
    exact rt_v hx hb hr hlk hP hD hS rfl dX2_scanSign_101

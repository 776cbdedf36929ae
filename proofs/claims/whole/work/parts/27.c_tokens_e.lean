set_option maxHeartbeats 4000000 in
set_option maxRecDepth 100000 in
theorem c_Tokens_scanToken (l : Launch) (D : va_G) (cI : ClassId) (sd : Nat → Nat) (ad : Nat → Nat) (o_this : S_Tokens) (o_text : S_Bytes) (o_names : S_Names) (res : S_Tokens × S_Names) (hM : f_Tokens_scanToken o_this o_text o_names = some res) : Ctr l D cI sd yX2_scanToken (wsM yX2_scanToken cX2_scanToken 3 (Option.none : Option Jvm.ClassFile.FieldType)) { frames := 4, cells := 0, slots := 0, locals := 92 } [.ref (ad 10)] (w_Tokens_this_text_names cI ad o_this o_text o_names) (w_Tokens_this_text_names cI ad res.1 o_text res.2) none := by
  refine Ctr.of (cc := cX2_scanToken) (maxL := 3) (own := RX2) (by decide +kernel) rfl rfl (Nat.le_of_ble_eq_true rfl) ?_
  intro p e s m below meth c A ls hx hb hr hml hown hts hlk hK hE hA hP hD hS hl
  have hl : lv_has ls 3 [(0, .ref (ad 10))] := hl
  unfold f_Tokens_scanToken at hM
  refine lv_aload_n hx hb dX2_scanToken_0 rfl (lv_at hl 0 rfl) ?_
  obtain ⟨r1, hcr1, hM⟩ := ob_use hM
  refine cl_V (As := []) (rest := []) (w_Tokens_this_text_names cI ad r1.2 o_text o_names) (.int r1.1 :: []) ⟨hx, hb, hml, hown, hts⟩ (c_Tokens_skipBlanks l D cI sd ad o_this o_text r1 hcr1) (cwV2 hts q526 mvX2_skipBlanks rfl rfl ⟨(Nat.le_of_ble_eq_true rfl), (Nat.le_of_ble_eq_true rfl)⟩) hK hE hA hP hD hS 0 (T := TX2) (N := 7) (ci := 2) rfl rfl [0, 1, 2, 3, 4, 5] rfl (by decide) rfl rfl rfl rfl rfl rfl hl.1 (Nat.le_of_ble_eq_true rfl) dX2_scanToken_1 ⟨Nat.zero_le _, Nat.zero_le _⟩ (fun H locs hP hD hS => ?_)
  refine lv_istore_n (lv' := [(1, .int r1.1), (0, .ref (ad 10))]) hx hb dX2_scanToken_4 rfl hl (by decide) rfl (fun ls hl => ?_)
  refine lv_aload_n hx hb dX2_scanToken_5 rfl (lv_at hl 1 rfl) ?_
  refine va_get (D := D) (ci := 2) (v := .ref (ad 1)) (C := RX2) (T := TX2) (N := 7) hx hb hts layX2 hown hK hP 0 rfl rfl 0 (by decide) (hts _ (inA q331)) (fun _ h9 => h9) rfl dX2_scanToken_6 ?_
  refine lv_aload_n hx hb dX2_scanToken_9 rfl (lv_at hl 1 rfl) ?_
  refine va_get (D := D) (ci := 2) (v := .int r1.2.2.1) (C := RX2) (T := TX2) (N := 7) hx hb hts layX2 hown hK hP 0 rfl rfl 6 (by decide) (hts _ (inA q341)) (fun _ h9 => h9) rfl dX2_scanToken_10 ?_
  obtain ⟨r2, hcr2, hM⟩ := ob_use hM
  refine cl_V (As := [.int r1.2.2.1]) (rest := []) (w_Tokens_this_text_names cI ad r1.2 o_text o_names) (.int r2 :: []) ⟨hx, hb, hml, hown, hts⟩ (c_Bytes_get l D cI sd (ad 1) (ad 2) 8192 o_text r1.2.2.1 r2 hcr2) (cwV2 hts q530 mvX0_get rfl rfl ⟨(Nat.le_of_ble_eq_true rfl), (Nat.le_of_ble_eq_true rfl)⟩) hK hE hA hP hD hS 4 (T := TX0) (N := 2) (ci := 0) rfl rfl [4, 5] rfl (by decide) rfl rfl rfl rfl rfl rfl hl.1 (Nat.le_of_ble_eq_true rfl) dX2_scanToken_13 ⟨Nat.zero_le _, Nat.zero_le _⟩ (fun H locs hP hD hS => ?_)
  refine lv_istore_n (lv' := [(2, .int r2), (1, .int r1.1), (0, .ref (ad 10))]) hx hb dX2_scanToken_16 rfl hl (by decide) rfl (fun ls hl => ?_)
  refine lv_iload_n hx hb dX2_scanToken_17 rfl (lv_at hl 1 rfl) ?_
  refine lv_if_ne (tgt := 34) hx hb dX2_scanToken_18 (by decide) (fun c3 => ?_) (fun c3 => ?_)
  · replace hM := if_f c3 hM
    refine lv_iload_n hx hb dX2_scanToken_34 rfl (lv_at hl 0 rfl) ?_
    refine lv_iconst (v := (-1)) hx hb dX2_scanToken_35 (by decide) ?_
    refine lv_icmp_ne (tgt := 52) hx hb dX2_scanToken_36 (by decide) (fun c4 => ?_) (fun c4 => ?_)
    · replace hM := if_f c4 hM
      refine lv_iload_n hx hb dX2_scanToken_52 rfl (lv_at hl 0 rfl) ?_
      obtain ⟨r5, hcr5, hM⟩ := ob_use hM
      refine cl_SN (As := [.int r2]) (rest := []) (w_Tokens_this_text_names cI ad r1.2 o_text o_names) (.int r5 :: []) ⟨hx, hb, hml, hown, hts⟩ (c_Top_great l D cI sd ad r2 r5 hcr5) (cwSN2 hts (nmE2 hE) mvX6_great rfl rfl ⟨(Nat.le_of_ble_eq_true rfl), (Nat.le_of_ble_eq_true rfl)⟩) hK hE hA hP hD hS [] rfl (by decide) rfl rfl rfl rfl rfl rfl hl.1 (Nat.le_of_ble_eq_true rfl) dX2_scanToken_53 ⟨Nat.zero_le _, Nat.zero_le _⟩ (fun H locs hP hD hS => ?_)
      refine lv_bipush (v := 84) hx hb dX2_scanToken_56 (by decide) ?_
      refine lv_icmp_ne (tgt := 86) hx hb dX2_scanToken_58 (by decide) (fun c6 => ?_) (fun c6 => ?_)
      · replace hM := if_f c6 hM
        refine lv_iload_n hx hb dX2_scanToken_86 rfl (lv_at hl 0 rfl) ?_
        obtain ⟨r7, hcr7, hM⟩ := ob_use hM
        refine cl_SN (As := [.int r2]) (rest := []) (w_Tokens_this_text_names cI ad r1.2 o_text o_names) (.int r7 :: []) ⟨hx, hb, hml, hown, hts⟩ (c_Top_isDigit l D cI sd ad r2 r7 hcr7) (cwSN2 hts (nmE3 hE) mvX6_isDigit rfl rfl ⟨(Nat.le_of_ble_eq_true rfl), (Nat.le_of_ble_eq_true rfl)⟩) hK hE hA hP hD hS [] rfl (by decide) rfl rfl rfl rfl rfl rfl hl.1 (Nat.le_of_ble_eq_true rfl) dX2_scanToken_87 ⟨Nat.zero_le _, Nat.zero_le _⟩ (fun H locs hP hD hS => ?_)
        refine lv_if_eq (tgt := 100) hx hb dX2_scanToken_90 (by decide) (fun c8 => ?_) (fun c8 => ?_)
        · replace hM := if_t c8 hM
          refine lv_iload_n hx hb dX2_scanToken_100 rfl (lv_at hl 0 rfl) ?_
          obtain ⟨r9, hcr9, hM⟩ := ob_use hM
          refine cl_SN (As := [.int r2]) (rest := []) (w_Tokens_this_text_names cI ad r1.2 o_text o_names) (.int r9 :: []) ⟨hx, hb, hml, hown, hts⟩ (c_Top_isNameByte l D cI sd ad r2 r9 hcr9) (cwSN2 hts (nmE4 hE) mvX6_isNameByte rfl rfl ⟨(Nat.le_of_ble_eq_true rfl), (Nat.le_of_ble_eq_true rfl)⟩) hK hE hA hP hD hS [] rfl (by decide) rfl rfl rfl rfl rfl rfl hl.1 (Nat.le_of_ble_eq_true rfl) dX2_scanToken_101 ⟨Nat.zero_le _, Nat.zero_le _⟩ (fun H locs hP hD hS => ?_)
          refine lv_if_eq (tgt := 114) hx hb dX2_scanToken_104 (by decide) (fun c10 => ?_) (fun c10 => ?_)
          · replace hM := if_t c10 hM
            refine lv_iload_n hx hb dX2_scanToken_114 rfl (lv_at hl 0 rfl) ?_
            refine lv_bipush (v := 37) hx hb dX2_scanToken_115 (by decide) ?_
            refine lv_icmp_ne (tgt := 127) hx hb dX2_scanToken_117 (by decide) (fun c11 => ?_) (fun c11 => ?_)
            · replace hM := if_f c11 hM
              refine lv_aload_n hx hb dX2_scanToken_127 rfl (lv_at hl 2 rfl) ?_
              obtain ⟨r12, hcr12, hM⟩ := ob_use hM
              refine cl_V (As := []) (rest := []) (w_Tokens_this_text_names cI ad r12 o_text o_names) [] ⟨hx, hb, hml, hown, hts⟩ (c_Tokens_scanSign l D cI sd ad r1.2 o_text r12 hcr12) (cwV2 hts q593 mvX2_scanSign rfl rfl ⟨(Nat.le_of_ble_eq_true rfl), (Nat.le_of_ble_eq_true rfl)⟩) hK hE hA hP hD hS 0 (T := TX2) (N := 7) (ci := 2) rfl rfl [0, 1, 2, 3, 4, 5] rfl (by decide) rfl rfl rfl rfl rfl rfl hl.1 (Nat.le_of_ble_eq_true rfl) dX2_scanToken_128 ⟨Nat.zero_le _, Nat.zero_le _⟩ (fun H locs hP hD hS => ?_)
              cases hM
              exact rt_v hx hb hr hlk hP hD hS rfl dX2_scanToken_131
            · replace hM := if_t c11 hM
              refine lv_aload_n hx hb dX2_scanToken_120 rfl (lv_at hl 2 rfl) ?_
              obtain ⟨r13, hcr13, hM⟩ := ob_use hM
              refine cl_V (As := []) (rest := []) (w_Tokens_this_text_names cI ad r13 o_text o_names) [] ⟨hx, hb, hml, hown, hts⟩ (c_Tokens_scanPlace l D cI sd ad r1.2 o_text r13 hcr13) (cwV2 hts q586 mvX2_scanPlace rfl rfl ⟨(Nat.le_of_ble_eq_true rfl), (Nat.le_of_ble_eq_true rfl)⟩) hK hE hA hP hD hS 0 (T := TX2) (N := 7) (ci := 2) rfl rfl [0, 1, 2, 3, 4, 5] rfl (by decide) rfl rfl rfl rfl rfl rfl hl.1 (Nat.le_of_ble_eq_true rfl) dX2_scanToken_121 ⟨Nat.zero_le _, Nat.zero_le _⟩ (fun H locs hP hD hS => ?_)
              refine lv_goto (tgt := 131) hx hb dX2_scanToken_124 (by decide) ?_
              cases hM
              exact rt_v hx hb hr hlk hP hD hS rfl dX2_scanToken_131
          · replace hM := if_f c10 hM
            refine lv_aload_n hx hb dX2_scanToken_107 rfl (lv_at hl 2 rfl) ?_
            obtain ⟨r14, hcr14, hM⟩ := ob_use hM
            refine cl_V (As := []) (rest := []) (w_Tokens_this_text_names cI ad r14.1 o_text r14.2) [] ⟨hx, hb, hml, hown, hts⟩ (c_Tokens_scanName l D cI sd ad r1.2 o_text o_names r14 hcr14) (cwV2 hts q580 mvX2_scanName rfl rfl ⟨(Nat.le_of_ble_eq_true rfl), (Nat.le_of_ble_eq_true rfl)⟩) hK hE hA hP hD hS 0 (T := TX2) (N := 7) (ci := 2) rfl rfl [0, 1, 2, 3, 4, 5, 6, 7, 8, 9, 10] rfl (by decide) rfl rfl rfl rfl rfl rfl hl.1 (Nat.le_of_ble_eq_true rfl) dX2_scanToken_108 ⟨Nat.zero_le _, Nat.zero_le _⟩ (fun H locs hP hD hS => ?_)
            refine lv_goto (tgt := 131) hx hb dX2_scanToken_111 (by decide) ?_
            cases hM
            exact rt_v hx hb hr hlk hP hD hS rfl dX2_scanToken_131
        · replace hM := if_f c8 hM
          refine lv_aload_n hx hb dX2_scanToken_93 rfl (lv_at hl 2 rfl) ?_
          obtain ⟨r15, hcr15, hM⟩ := ob_use hM
          refine cl_V (As := []) (rest := []) (w_Tokens_this_text_names cI ad r15 o_text o_names) [] ⟨hx, hb, hml, hown, hts⟩ (c_Tokens_scanNumber l D cI sd ad r1.2 o_text r15 hcr15) (cwV2 hts q574 mvX2_scanNumber rfl rfl ⟨(Nat.le_of_ble_eq_true rfl), (Nat.le_of_ble_eq_true rfl)⟩) hK hE hA hP hD hS 0 (T := TX2) (N := 7) (ci := 2) rfl rfl [0, 1, 2, 3, 4, 5] rfl (by decide) rfl rfl rfl rfl rfl rfl hl.1 (Nat.le_of_ble_eq_true rfl) dX2_scanToken_94 ⟨Nat.zero_le _, Nat.zero_le _⟩ (fun H locs hP hD hS => ?_)
          refine lv_goto (tgt := 131) hx hb dX2_scanToken_97 (by decide) ?_
          cases hM
          exact rt_v hx hb hr hlk hP hD hS rfl dX2_scanToken_131
      · replace hM := if_t c6 hM
        refine lv_aload_n hx hb dX2_scanToken_61 rfl (lv_at hl 2 rfl) ?_
        refine va_get (D := D) (ci := 2) (v := .ref (ad 1)) (C := RX2) (T := TX2) (N := 7) hx hb hts layX2 hown hK hP 0 rfl rfl 0 (by decide) (hts _ (inA q331)) (fun _ h9 => h9) rfl dX2_scanToken_62 ?_
        refine lv_aload_n hx hb dX2_scanToken_65 rfl (lv_at hl 2 rfl) ?_
        refine va_get (D := D) (ci := 2) (v := .int r1.2.2.1) (C := RX2) (T := TX2) (N := 7) hx hb hts layX2 hown hK hP 0 rfl rfl 6 (by decide) (hts _ (inA q341)) (fun _ h9 => h9) rfl dX2_scanToken_66 ?_
        refine lv_iconst (v := 1) hx hb dX2_scanToken_69 (by decide) ?_
        refine lv_iadd hx hb dX2_scanToken_70 ?_
        obtain ⟨r16, hcr16, hM⟩ := ob_use hM
        refine cl_V (As := [.int (r1.2.2.1 + 1)]) (rest := []) (w_Tokens_this_text_names cI ad r1.2 o_text o_names) (.int r16 :: []) ⟨hx, hb, hml, hown, hts⟩ (c_Bytes_get l D cI sd (ad 1) (ad 2) 8192 o_text (r1.2.2.1 + 1) r16 hcr16) (cwV2 hts q530 mvX0_get rfl rfl ⟨(Nat.le_of_ble_eq_true rfl), (Nat.le_of_ble_eq_true rfl)⟩) hK hE hA hP hD hS 4 (T := TX0) (N := 2) (ci := 0) rfl rfl [4, 5] rfl (by decide) rfl rfl rfl rfl rfl rfl hl.1 (Nat.le_of_ble_eq_true rfl) dX2_scanToken_71 ⟨Nat.zero_le _, Nat.zero_le _⟩ (fun H locs hP hD hS => ?_)
        refine lv_bipush (v := 35) hx hb dX2_scanToken_74 (by decide) ?_
        refine lv_icmp_ne (tgt := 86) hx hb dX2_scanToken_76 (by decide) (fun c17 => ?_) (fun c17 => ?_)
        · replace hM := if_f c17 hM
          refine lv_iload_n hx hb dX2_scanToken_86 rfl (lv_at hl 0 rfl) ?_
          obtain ⟨r18, hcr18, hM⟩ := ob_use hM
          refine cl_SN (As := [.int r2]) (rest := []) (w_Tokens_this_text_names cI ad r1.2 o_text o_names) (.int r18 :: []) ⟨hx, hb, hml, hown, hts⟩ (c_Top_isDigit l D cI sd ad r2 r18 hcr18) (cwSN2 hts (nmE3 hE) mvX6_isDigit rfl rfl ⟨(Nat.le_of_ble_eq_true rfl), (Nat.le_of_ble_eq_true rfl)⟩) hK hE hA hP hD hS [] rfl (by decide) rfl rfl rfl rfl rfl rfl hl.1 (Nat.le_of_ble_eq_true rfl) dX2_scanToken_87 ⟨Nat.zero_le _, Nat.zero_le _⟩ (fun H locs hP hD hS => ?_)
          refine lv_if_eq (tgt := 100) hx hb dX2_scanToken_90 (by decide) (fun c19 => ?_) (fun c19 => ?_)
          · replace hM := if_t c19 hM
            refine lv_iload_n hx hb dX2_scanToken_100 rfl (lv_at hl 0 rfl) ?_
            obtain ⟨r20, hcr20, hM⟩ := ob_use hM
            refine cl_SN (As := [.int r2]) (rest := []) (w_Tokens_this_text_names cI ad r1.2 o_text o_names) (.int r20 :: []) ⟨hx, hb, hml, hown, hts⟩ (c_Top_isNameByte l D cI sd ad r2 r20 hcr20) (cwSN2 hts (nmE4 hE) mvX6_isNameByte rfl rfl ⟨(Nat.le_of_ble_eq_true rfl), (Nat.le_of_ble_eq_true rfl)⟩) hK hE hA hP hD hS [] rfl (by decide) rfl rfl rfl rfl rfl rfl hl.1 (Nat.le_of_ble_eq_true rfl) dX2_scanToken_101 ⟨Nat.zero_le _, Nat.zero_le _⟩ (fun H locs hP hD hS => ?_)
            refine lv_if_eq (tgt := 114) hx hb dX2_scanToken_104 (by decide) (fun c21 => ?_) (fun c21 => ?_)
            · replace hM := if_t c21 hM
              refine lv_iload_n hx hb dX2_scanToken_114 rfl (lv_at hl 0 rfl) ?_
              refine lv_bipush (v := 37) hx hb dX2_scanToken_115 (by decide) ?_
              refine lv_icmp_ne (tgt := 127) hx hb dX2_scanToken_117 (by decide) (fun c22 => ?_) (fun c22 => ?_)
              · replace hM := if_f c22 hM
                refine lv_aload_n hx hb dX2_scanToken_127 rfl (lv_at hl 2 rfl) ?_
                obtain ⟨r23, hcr23, hM⟩ := ob_use hM
                refine cl_V (As := []) (rest := []) (w_Tokens_this_text_names cI ad r23 o_text o_names) [] ⟨hx, hb, hml, hown, hts⟩ (c_Tokens_scanSign l D cI sd ad r1.2 o_text r23 hcr23) (cwV2 hts q593 mvX2_scanSign rfl rfl ⟨(Nat.le_of_ble_eq_true rfl), (Nat.le_of_ble_eq_true rfl)⟩) hK hE hA hP hD hS 0 (T := TX2) (N := 7) (ci := 2) rfl rfl [0, 1, 2, 3, 4, 5] rfl (by decide) rfl rfl rfl rfl rfl rfl hl.1 (Nat.le_of_ble_eq_true rfl) dX2_scanToken_128 ⟨Nat.zero_le _, Nat.zero_le _⟩ (fun H locs hP hD hS => ?_)
                cases hM
                exact rt_v hx hb hr hlk hP hD hS rfl dX2_scanToken_131
              · replace hM := if_t c22 hM
                refine lv_aload_n hx hb dX2_scanToken_120 rfl (lv_at hl 2 rfl) ?_
                obtain ⟨r24, hcr24, hM⟩ := ob_use hM
                refine cl_V (As := []) (rest := []) (w_Tokens_this_text_names cI ad r24 o_text o_names) [] ⟨hx, hb, hml, hown, hts⟩ (c_Tokens_scanPlace l D cI sd ad r1.2 o_text r24 hcr24) (cwV2 hts q586 mvX2_scanPlace rfl rfl ⟨(Nat.le_of_ble_eq_true rfl), (Nat.le_of_ble_eq_true rfl)⟩) hK hE hA hP hD hS 0 (T := TX2) (N := 7) (ci := 2) rfl rfl [0, 1, 2, 3, 4, 5] rfl (by decide) rfl rfl rfl rfl rfl rfl hl.1 (Nat.le_of_ble_eq_true rfl) dX2_scanToken_121 ⟨Nat.zero_le _, Nat.zero_le _⟩ (fun H locs hP hD hS => ?_)
                refine lv_goto (tgt := 131) hx hb dX2_scanToken_124 (by decide) ?_
                cases hM
                exact rt_v hx hb hr hlk hP hD hS rfl dX2_scanToken_131
            · replace hM := if_f c21 hM
              refine lv_aload_n hx hb dX2_scanToken_107 rfl (lv_at hl 2 rfl) ?_
              obtain ⟨r25, hcr25, hM⟩ := ob_use hM
              refine cl_V (As := []) (rest := []) (w_Tokens_this_text_names cI ad r25.1 o_text r25.2) [] ⟨hx, hb, hml, hown, hts⟩ (c_Tokens_scanName l D cI sd ad r1.2 o_text o_names r25 hcr25) (cwV2 hts q580 mvX2_scanName rfl rfl ⟨(Nat.le_of_ble_eq_true rfl), (Nat.le_of_ble_eq_true rfl)⟩) hK hE hA hP hD hS 0 (T := TX2) (N := 7) (ci := 2) rfl rfl [0, 1, 2, 3, 4, 5, 6, 7, 8, 9, 10] rfl (by decide) rfl rfl rfl rfl rfl rfl hl.1 (Nat.le_of_ble_eq_true rfl) dX2_scanToken_108 ⟨Nat.zero_le _, Nat.zero_le _⟩ (fun H locs hP hD hS => ?_)
              refine lv_goto (tgt := 131) hx hb dX2_scanToken_111 (by decide) ?_
              cases hM
              exact rt_v hx hb hr hlk hP hD hS rfl dX2_scanToken_131
          · replace hM := if_f c19 hM
            refine lv_aload_n hx hb dX2_scanToken_93 rfl (lv_at hl 2 rfl) ?_
            obtain ⟨r26, hcr26, hM⟩ := ob_use hM
            refine cl_V (As := []) (rest := []) (w_Tokens_this_text_names cI ad r26 o_text o_names) [] ⟨hx, hb, hml, hown, hts⟩ (c_Tokens_scanNumber l D cI sd ad r1.2 o_text r26 hcr26) (cwV2 hts q574 mvX2_scanNumber rfl rfl ⟨(Nat.le_of_ble_eq_true rfl), (Nat.le_of_ble_eq_true rfl)⟩) hK hE hA hP hD hS 0 (T := TX2) (N := 7) (ci := 2) rfl rfl [0, 1, 2, 3, 4, 5] rfl (by decide) rfl rfl rfl rfl rfl rfl hl.1 (Nat.le_of_ble_eq_true rfl) dX2_scanToken_94 ⟨Nat.zero_le _, Nat.zero_le _⟩ (fun H locs hP hD hS => ?_)
            refine lv_goto (tgt := 131) hx hb dX2_scanToken_97 (by decide) ?_
            cases hM
            exact rt_v hx hb hr hlk hP hD hS rfl dX2_scanToken_131
        · replace hM := if_t c17 hM
          refine lv_aload_n hx hb dX2_scanToken_79 rfl (lv_at hl 2 rfl) ?_
          obtain ⟨r27, hcr27, hM⟩ := ob_use hM
          refine cl_V (As := []) (rest := []) (w_Tokens_this_text_names cI ad r27 o_text o_names) [] ⟨hx, hb, hml, hown, hts⟩ (c_Tokens_scanTime l D cI sd ad r1.2 o_text r27 hcr27) (cwV2 hts q540 mvX2_scanTime rfl rfl ⟨(Nat.le_of_ble_eq_true rfl), (Nat.le_of_ble_eq_true rfl)⟩) hK hE hA hP hD hS 0 (T := TX2) (N := 7) (ci := 2) rfl rfl [0, 1, 2, 3, 4, 5] rfl (by decide) rfl rfl rfl rfl rfl rfl hl.1 (Nat.le_of_ble_eq_true rfl) dX2_scanToken_80 ⟨Nat.zero_le _, Nat.zero_le _⟩ (fun H locs hP hD hS => ?_)
          refine lv_goto (tgt := 131) hx hb dX2_scanToken_83 (by decide) ?_
          cases hM
          exact rt_v hx hb hr hlk hP hD hS rfl dX2_scanToken_131
    · replace hM := if_t c4 hM
      refine lv_aload_n hx hb dX2_scanToken_39 rfl (lv_at hl 2 rfl) ?_
      refine lv_iconst (v := 4) hx hb dX2_scanToken_40 (by decide) ?_
      refine lv_aload_n hx hb dX2_scanToken_41 rfl (lv_at hl 2 rfl) ?_
      refine va_get (D := D) (ci := 2) (v := .int r1.2.2.1) (C := RX2) (T := TX2) (N := 7) hx hb hts layX2 hown hK hP 0 rfl rfl 6 (by decide) (hts _ (inA q341)) (fun _ h9 => h9) rfl dX2_scanToken_42 ?_
      refine lv_iconst (v := 0) hx hb dX2_scanToken_45 (by decide) ?_
      obtain ⟨r28, hcr28, hM⟩ := ob_use hM
      refine cl_V (As := [.int 4, .int r1.2.2.1, .int 0]) (rest := []) (w_Tokens_this_text_names cI ad r28 o_text o_names) [] ⟨hx, hb, hml, hown, hts⟩ (c_Tokens_add l D cI sd ad r1.2 4 r1.2.2.1 0 r28 hcr28) (cwV2 hts q535 mvX2_add rfl rfl ⟨(Nat.le_of_ble_eq_true rfl), (Nat.le_of_ble_eq_true rfl)⟩) hK hE hA hP hD hS 0 (T := TX2) (N := 7) (ci := 2) rfl rfl [0, 1, 2, 3] rfl (by decide) rfl rfl rfl rfl rfl rfl hl.1 (Nat.le_of_ble_eq_true rfl) dX2_scanToken_46 ⟨Nat.zero_le _, Nat.zero_le _⟩ (fun H locs hP hD hS => ?_)
      refine lv_goto (tgt := 131) hx hb dX2_scanToken_49 (by decide) ?_
      cases hM
      exact rt_v hx hb hr hlk hP hD hS rfl dX2_scanToken_131
  · replace hM := if_t c3 hM
    refine lv_aload_n hx hb dX2_scanToken_21 rfl (lv_at hl 2 rfl) ?_
    refine lv_iconst (v := 5) hx hb dX2_scanToken_22 (by decide) ?_
    refine lv_aload_n hx hb dX2_scanToken_23 rfl (lv_at hl 2 rfl) ?_
    refine va_get (D := D) (ci := 2) (v := .int r1.2.2.1) (C := RX2) (T := TX2) (N := 7) hx hb hts layX2 hown hK hP 0 rfl rfl 6 (by decide) (hts _ (inA q341)) (fun _ h9 => h9) rfl dX2_scanToken_24 ?_
    refine lv_iconst (v := 2) hx hb dX2_scanToken_27 (by decide) ?_
    obtain ⟨r29, hcr29, hM⟩ := ob_use hM
    refine cl_V (As := [.int 5, .int r1.2.2.1, .int 2]) (rest := []) (w_Tokens_this_text_names cI ad r29 o_text o_names) [] ⟨hx, hb, hml, hown, hts⟩ (c_Tokens_add l D cI sd ad r1.2 5 r1.2.2.1 2 r29 hcr29) (cwV2 hts q535 mvX2_add rfl rfl ⟨(Nat.le_of_ble_eq_true rfl), (Nat.le_of_ble_eq_true rfl)⟩) hK hE hA hP hD hS 0 (T := TX2) (N := 7) (ci := 2) rfl rfl [0, 1, 2, 3] rfl (by decide) rfl rfl rfl rfl rfl rfl hl.1 (Nat.le_of_ble_eq_true rfl) dX2_scanToken_28 ⟨Nat.zero_le _, Nat.zero_le _⟩ (fun H locs hP hD hS => ?_)
    refine lv_goto (tgt := 131) hx hb dX2_scanToken_31 (by decide) ?_
    cases hM
    exact rt_v hx hb hr hlk hP hD hS rfl dX2_scanToken_131

set_option maxHeartbeats 4000000 in
set_option maxRecDepth 100000 in
theorem c_Tokens_scan (l : Launch) (D : va_G) (cI : ClassId) (sd : Nat → Nat) (ad : Nat → Nat) (o_this : S_Tokens) (o_text : S_Bytes) (o_names : S_Names) (res : S_Tokens × S_Names) (hM : f_Tokens_scan o_this o_text o_names = some res) : Ctr l D cI sd yX2_scan (wsM yX2_scan cX2_scan 4 (Option.none : Option Jvm.ClassFile.FieldType)) { frames := 5, cells := 0, slots := 0, locals := 114 } [.ref (ad 10)] (w_Tokens_this_text_names cI ad o_this o_text o_names) (w_Tokens_this_text_names cI ad res.1 o_text res.2) none := by
  refine Ctr.of (cc := cX2_scan) (maxL := 4) (own := RX2) (by decide +kernel) rfl rfl (Nat.le_of_ble_eq_true rfl) ?_
  intro p e s m below meth c A ls hx hb hr hml hown hts hlk hK hE hA hP hD hS hl
  have hl : lv_has ls 4 [(0, .ref (ad 10))] := hl
  unfold f_Tokens_scan at hM
  refine lv_aload_n hx hb dX2_scan_0 rfl (lv_at hl 0 rfl) ?_
  refine va_get (D := D) (ci := 2) (v := .ref (ad 5)) (C := RX2) (T := TX2) (N := 7) hx hb hts layX2 hown hK hP 0 rfl rfl 1 (by decide) (hts _ (inA q332)) (fun _ h9 => h9) rfl dX2_scan_1 ?_
  obtain ⟨r1, hcr1, hM⟩ := ob_use hM
  refine cl_V (As := []) (rest := []) (w_Tokens_this_text_names cI ad o_this o_text r1) [] ⟨hx, hb, hml, hown, hts⟩ (c_Names_forget l D cI sd ad o_names r1 hcr1) (cwV2 hts q518 mvX1_forget rfl rfl ⟨(Nat.le_of_ble_eq_true rfl), (Nat.le_of_ble_eq_true rfl)⟩) hK hE hA hP hD hS 6 (T := TX1) (N := 6) (ci := 1) rfl rfl [6, 7, 8, 9, 10] rfl (by decide) rfl rfl rfl rfl rfl rfl hl.1 (Nat.le_of_ble_eq_true rfl) dX2_scan_4 ⟨Nat.zero_le _, Nat.zero_le _⟩ (fun H locs hP hD hS => ?_)
  refine lv_aload_n hx hb dX2_scan_7 rfl (lv_at hl 0 rfl) ?_
  refine lv_iconst (v := 0) hx hb dX2_scan_8 (by decide) ?_
  refine va_put (D := D) (ci := 2) (v := .int 0) (ty := .int) (C := RX2) (T := TX2) (N := 7) hx hb hts layX2 tyX2 tyX2_ok nmX2 hown hK hP hD hS 0 rfl rfl 5 (by decide) (hts _ (inA q339)) (fun _ h9 => h9) rfl (by decide +kernel) rfl rfl (Nat.le_of_ble_eq_true rfl) dX2_scan_9 (fun H locs hP hD hS => ?_)
  have hP : va_P D vwCl (w_Tokens_this_text_names cI ad (0, o_this.2) o_text r1) H := hP
  have hD : va_D A (w_Tokens_this_text_names cI ad (0, o_this.2) o_text r1) := hD
  refine lv_aload_n hx hb dX2_scan_12 rfl (lv_at hl 0 rfl) ?_
  refine lv_iconst (v := 0) hx hb dX2_scan_13 (by decide) ?_
  refine va_put (D := D) (ci := 2) (v := .int 0) (ty := .int) (C := RX2) (T := TX2) (N := 7) hx hb hts layX2 tyX2 tyX2_ok nmX2 hown hK hP hD hS 0 rfl rfl 6 (by decide) (hts _ (inA q341)) (fun _ h9 => h9) rfl (by decide +kernel) rfl rfl (Nat.le_of_ble_eq_true rfl) dX2_scan_14 (fun H locs hP hD hS => ?_)
  have hP : va_P D vwCl (w_Tokens_this_text_names cI ad (0, 0, o_this.2.2) o_text r1) H := hP
  have hD : va_D A (w_Tokens_this_text_names cI ad (0, 0, o_this.2.2) o_text r1) := hD
  refine lv_iconst (v := 1) hx hb dX2_scan_17 (by decide) ?_
  refine lv_istore_n (lv' := [(1, .int 1), (0, .ref (ad 10))]) hx hb dX2_scan_18 rfl hl (by decide) rfl (fun ls hl => ?_)
  refine lv_iconst (v := 0) hx hb dX2_scan_19 (by decide) ?_
  refine lv_istore_n (lv' := [(2, .int 0), (1, .int 1), (0, .ref (ad 10))]) hx hb dX2_scan_20 rfl hl (by decide) rfl (fun ls hl => ?_)
  have lp_L21 : ∀ (o_text_L21 : S_Bytes) (n : Nat) (v2_L21 : Int32) (v1_L21 : Int32) (o_this_L21 : S_Tokens) (o_names_L21 : S_Names) (out_L21 : S_Tokens × S_Names) (H : Heap) (locs : List Loc) (ls : Array Slot), f_Tokens_scan_L21 o_text_L21 n v2_L21 v1_L21 o_this_L21 o_names_L21 = some out_L21 → va_P D vwCl (w_Tokens_this_text_names cI ad o_this_L21 o_text_L21 o_names_L21) H → va_D A (w_Tokens_this_text_names cI ad o_this_L21 o_text_L21 o_names_L21) → va_S A s.heap H locs → lv_has ls 4 [(2, .int v2_L21), (1, .int v1_L21), (0, .ref (ad 10))] → (∀ (H : Heap) (locs : List Loc) (ls : Array Slot), va_P D vwCl (w_Tokens_this_text_names cI ad out_L21.1 o_text_L21 out_L21.2) H → va_D A (w_Tokens_this_text_names cI ad out_L21.1 o_text_L21 out_L21.2) → va_S A s.heap H locs → lv_has ls 4 [(0, .ref (ad 10))] → W p l e { frames := 5, cells := 0, slots := 0, locals := 114 } s m [.ref (ad 10)].toArray below meth c H locs 0 0 (MQ below (CQ D A (w_Tokens_this_text_names cI ad res.1 o_text res.2) none) [.ref (ad 10)].toArray s 0 0 A) (F0 m 69 ls [])) → W p l e { frames := 5, cells := 0, slots := 0, locals := 114 } s m [.ref (ad 10)].toArray below meth c H locs 0 0 (MQ below (CQ D A (w_Tokens_this_text_names cI ad res.1 o_text res.2) none) [.ref (ad 10)].toArray s 0 0 A) (F0 m 21 ls []) := by
    intro o_text_L21 n
    induction n with
    | zero => intro v2_L21 v1_L21 o_this_L21 o_names_L21 out_L21 H locs ls hM; exact absurd (show none = some _ from hM) (by simp)
    | succ n ih_L21 =>
      intro v2_L21 v1_L21 o_this_L21 o_names_L21 out_L21 H locs ls hM hP hD hS hl kx_L21
      rw [f_Tokens_scan_L21] at hM
      refine lv_iload_n hx hb dX2_scan_21 rfl (lv_at hl 1 rfl) ?_
      refine lv_if_eq (tgt := 69) hx hb dX2_scan_22 (by decide) (fun c1311 => ?_) (fun c1311 => ?_)
      · replace hM := if_t c1311 hM
        cases hM
        exact kx_L21 _ _ _ hP hD hS (lv_sub hl [2] rfl)
      · replace hM := if_f c1311 hM
        refine lv_iload_n hx hb dX2_scan_25 rfl (lv_at hl 0 rfl) ?_
        refine lv_sipush (v := 8193) hx hb dX2_scan_26 (by decide) ?_
        refine lv_icmp_ge (tgt := 69) hx hb dX2_scan_29 (by decide) (fun c1312 => ?_) (fun c1312 => ?_)
        · replace hM := if_t c1312 hM
          cases hM
          exact kx_L21 _ _ _ hP hD hS (lv_sub hl [2] rfl)
        · replace hM := if_f c1312 hM
          refine lv_aload_n hx hb dX2_scan_32 rfl (lv_at hl 2 rfl) ?_
          obtain ⟨r1313, hcr1313, hM⟩ := ob_use hM
          refine cl_V (As := []) (rest := []) (w_Tokens_this_text_names cI ad r1313.1 o_text_L21 r1313.2) [] ⟨hx, hb, hml, hown, hts⟩ (c_Tokens_scanToken l D cI sd ad o_this_L21 o_text_L21 o_names_L21 r1313 hcr1313) (cwV2 hts q522 mvX2_scanToken rfl rfl ⟨(Nat.le_of_ble_eq_true rfl), (Nat.le_of_ble_eq_true rfl)⟩) hK hE hA hP hD hS 0 (T := TX2) (N := 7) (ci := 2) rfl rfl [0, 1, 2, 3, 4, 5, 6, 7, 8, 9, 10] rfl (by decide) rfl rfl rfl rfl rfl rfl hl.1 (Nat.le_of_ble_eq_true rfl) dX2_scan_33 ⟨Nat.zero_le _, Nat.zero_le _⟩ (fun H locs hP hD hS => ?_)
          refine lv_aload_n hx hb dX2_scan_36 rfl (lv_at hl 2 rfl) ?_
          refine lv_aload_n hx hb dX2_scan_37 rfl (lv_at hl 2 rfl) ?_
          refine va_get (D := D) (ci := 2) (v := .int r1313.1.1) (C := RX2) (T := TX2) (N := 7) hx hb hts layX2 hown hK hP 0 rfl rfl 5 (by decide) (hts _ (inA q339)) (fun _ h9 => h9) rfl dX2_scan_38 ?_
          refine lv_iconst (v := 1) hx hb dX2_scan_41 (by decide) ?_
          refine lv_isub hx hb dX2_scan_42 ?_
          obtain ⟨r1314, hcr1314, hM⟩ := ob_use hM
          refine cl_V (As := [.int (r1313.1.1 - 1)]) (rest := []) (w_Tokens_this_text_names cI ad r1313.1 o_text_L21 r1313.2) (.int r1314 :: []) ⟨hx, hb, hml, hown, hts⟩ (c_Tokens_kind l D cI sd ad r1313.1 (r1313.1.1 - 1) r1314 hcr1314) (cwV2 hts q606 mvX2_kind rfl rfl ⟨(Nat.le_of_ble_eq_true rfl), (Nat.le_of_ble_eq_true rfl)⟩) hK hE hA hP hD hS 0 (T := TX2) (N := 7) (ci := 2) rfl rfl [0, 1, 2, 3] rfl (by decide) rfl rfl rfl rfl rfl rfl hl.1 (Nat.le_of_ble_eq_true rfl) dX2_scan_43 ⟨Nat.zero_le _, Nat.zero_le _⟩ (fun H locs hP hD hS => ?_)
          refine lv_istore_n (lv' := [(3, .int r1314), (2, .int v2_L21), (1, .int v1_L21), (0, .ref (ad 10))]) hx hb dX2_scan_46 rfl hl (by decide) rfl (fun ls hl => ?_)
          refine lv_iload_n hx hb dX2_scan_47 rfl (lv_at hl 0 rfl) ?_
          refine lv_iconst (v := 4) hx hb dX2_scan_48 (by decide) ?_
          refine lv_icmp_eq (tgt := 61) hx hb dX2_scan_49 (by decide) (fun c1315 => ?_) (fun c1315 => ?_)
          · replace hM := if_t c1315 hM
            refine lv_iconst (v := 0) hx hb dX2_scan_61 (by decide) ?_
            refine lv_istore_n (lv' := [(1, .int 0), (3, .int r1314), (2, .int v2_L21), (0, .ref (ad 10))]) hx hb dX2_scan_62 rfl hl (by decide) rfl (fun ls hl => ?_)
            obtain ⟨x1316, ex1316⟩ : ∃ y : Int32, y = v2_L21 + 1 := ⟨_, rfl⟩
            replace hM := nm_use ex1316 hM
            refine lv_iinc (v := x1316) (lv' := [(2, .int x1316), (1, .int 0), (3, .int r1314), (0, .ref (ad 10))]) hx hb dX2_scan_63 hl (k := 2) rfl (by rw [ex1316]; rfl) (by decide) rfl (fun ls hl => ?_)
            refine lv_goto (tgt := 21) hx hb dX2_scan_66 (by decide) ?_
            exact ih_L21 x1316 0 r1313.1 r1313.2 out_L21 _ _ _ hM hP hD hS (lv_sub hl [0, 1, 3] rfl) kx_L21
          · replace hM := if_f c1315 hM
            refine lv_iload_n hx hb dX2_scan_52 rfl (lv_at hl 0 rfl) ?_
            refine lv_iconst (v := 5) hx hb dX2_scan_53 (by decide) ?_
            refine lv_icmp_eq (tgt := 61) hx hb dX2_scan_54 (by decide) (fun c1317 => ?_) (fun c1317 => ?_)
            · replace hM := if_t c1317 hM
              refine lv_iconst (v := 0) hx hb dX2_scan_61 (by decide) ?_
              refine lv_istore_n (lv' := [(1, .int 0), (3, .int r1314), (2, .int v2_L21), (0, .ref (ad 10))]) hx hb dX2_scan_62 rfl hl (by decide) rfl (fun ls hl => ?_)
              obtain ⟨x1318, ex1318⟩ : ∃ y : Int32, y = v2_L21 + 1 := ⟨_, rfl⟩
              replace hM := nm_use ex1318 hM
              refine lv_iinc (v := x1318) (lv' := [(2, .int x1318), (1, .int 0), (3, .int r1314), (0, .ref (ad 10))]) hx hb dX2_scan_63 hl (k := 2) rfl (by rw [ex1318]; rfl) (by decide) rfl (fun ls hl => ?_)
              refine lv_goto (tgt := 21) hx hb dX2_scan_66 (by decide) ?_
              exact ih_L21 x1318 0 r1313.1 r1313.2 out_L21 _ _ _ hM hP hD hS (lv_sub hl [0, 1, 3] rfl) kx_L21
            · replace hM := if_f c1317 hM
              refine lv_iconst (v := 1) hx hb dX2_scan_57 (by decide) ?_
              refine lv_goto (tgt := 62) hx hb dX2_scan_58 (by decide) ?_
              refine lv_istore_n (lv' := [(1, .int 1), (3, .int r1314), (2, .int v2_L21), (0, .ref (ad 10))]) hx hb dX2_scan_62 rfl hl (by decide) rfl (fun ls hl => ?_)
              obtain ⟨x1319, ex1319⟩ : ∃ y : Int32, y = v2_L21 + 1 := ⟨_, rfl⟩
              replace hM := nm_use ex1319 hM
              refine lv_iinc (v := x1319) (lv' := [(2, .int x1319), (1, .int 1), (3, .int r1314), (0, .ref (ad 10))]) hx hb dX2_scan_63 hl (k := 2) rfl (by rw [ex1319]; rfl) (by decide) rfl (fun ls hl => ?_)
              refine lv_goto (tgt := 21) hx hb dX2_scan_66 (by decide) ?_
              exact ih_L21 x1319 1 r1313.1 r1313.2 out_L21 _ _ _ hM hP hD hS (lv_sub hl [0, 1, 3] rfl) kx_L21
  obtain ⟨r2, hcr2, hM⟩ := ob_use hM
  refine lp_L21 o_text FU 0 1 (0, 0, o_this.2.2) r1 r2 _ _ _ hcr2 hP hD hS (lv_sub hl [0, 1, 2] rfl) (fun H locs ls hP hD hS hl => ?_)
  cases hM
  exact rt_v hx hb hr hlk hP hD hS rfl dX2_scan_69

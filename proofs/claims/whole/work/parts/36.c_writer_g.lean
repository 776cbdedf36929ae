set_option maxHeartbeats 4000000 in
set_option maxRecDepth 100000 in
theorem c_Writer_finish (l : Launch) (D : va_G) (cI : ClassId) (sd : Nat → Nat) (ad : Nat → Nat) (o_tree : S_Tree) (o_names : S_Names) (o_out : S_Bytes) (a1 : Int32) (res : S_Bytes) (hM : f_Writer_finish o_tree o_names o_out a1 = some res) : Ctr l D cI sd yX5_finish (wsM yX5_finish cX5_finish 3 (Option.none : Option Jvm.ClassFile.FieldType)) { frames := 4, cells := 0, slots := 0, locals := 85 } [.ref (ad 23), .int a1] (w_Writer_this_tree_names_out cI ad o_tree o_names o_out) (w_Writer_this_tree_names_out cI ad o_tree o_names res) none := by
  refine Ctr.of (cc := cX5_finish) (maxL := 3) (own := RX5) (by decide +kernel) rfl rfl (Nat.le_of_ble_eq_true rfl) ?_
  intro p e s m below meth c A ls hx hb hr hml hown hts hlk hK hE hA hP hD hS hl
  have hl : lv_has ls 3 [(0, .ref (ad 23)), (1, .int a1)] := hl
  unfold f_Writer_finish at hM
  refine lv_aload_n hx hb dX5_finish_0 rfl (lv_at hl 0 rfl) ?_
  refine va_get (D := D) (ci := 5) (v := .ref (ad 14)) (C := RX5) (T := TX5) (N := 3) hx hb hts layX5 hown hK hP 0 rfl rfl 0 (by decide) (hts _ (inA q442)) (fun _ h9 => h9) rfl dX5_finish_1 ?_
  refine lv_iload_n hx hb dX5_finish_4 rfl (lv_at hl 1 rfl) ?_
  obtain ⟨r1, hcr1, hM⟩ := ob_use hM
  refine cl_V (As := [.int a1]) (rest := []) (w_Writer_this_tree_names_out cI ad o_tree o_names o_out) (.int r1 :: []) ⟨hx, hb, hml, hown, hts⟩ (c_Tree_kind l D cI sd ad o_tree a1 r1 hcr1) (cwV2 hts q870 mvX3_kind rfl rfl ⟨(Nat.le_of_ble_eq_true rfl), (Nat.le_of_ble_eq_true rfl)⟩) hK hE hA hP hD hS 1 (T := TX3) (N := 8) (ci := 3) rfl rfl [1, 2, 3, 4, 5, 6, 7, 8] rfl (by decide) rfl rfl rfl rfl rfl rfl hl.1 (Nat.le_of_ble_eq_true rfl) dX5_finish_5 ⟨Nat.zero_le _, Nat.zero_le _⟩ (fun H locs hP hD hS => ?_)
  refine lv_istore_n (lv' := [(2, .int r1), (0, .ref (ad 23)), (1, .int a1)]) hx hb dX5_finish_8 rfl hl (by decide) rfl (fun ls hl => ?_)
  refine lv_iload_n hx hb dX5_finish_9 rfl (lv_at hl 0 rfl) ?_
  refine lv_bipush (v := 16) hx hb dX5_finish_10 (by decide) ?_
  refine lv_icmp_ne (tgt := 34) hx hb dX5_finish_12 (by decide) (fun c2 => ?_) (fun c2 => ?_)
  · replace hM := if_f c2 hM
    refine lv_iload_n hx hb dX5_finish_34 rfl (lv_at hl 0 rfl) ?_
    refine lv_bipush (v := 35) hx hb dX5_finish_35 (by decide) ?_
    refine lv_icmp_ne (tgt := 54) hx hb dX5_finish_37 (by decide) (fun c3 => ?_) (fun c3 => ?_)
    · replace hM := if_f c3 hM
      refine lv_aload_n hx hb dX5_finish_54 rfl (lv_at hl 1 rfl) ?_
      refine lv_iload_n hx hb dX5_finish_55 rfl (lv_at hl 0 rfl) ?_
      obtain ⟨r4, hcr4, hM⟩ := ob_use hM
      refine cl_S (As := [.int r1]) (rest := [.ref (ad 23)]) (w_Writer_this_tree_names_out cI ad o_tree o_names o_out) (.int r4 :: [.ref (ad 23)]) ⟨hx, hb, hml, hown, hts⟩ (c_Writer_lastToken l D cI sd ad r1 r4 hcr4) (cwS2 hts q898 mvX5_lastToken rfl rfl ⟨(Nat.le_of_ble_eq_true rfl), (Nat.le_of_ble_eq_true rfl)⟩) hK hE hA hP hD hS [] rfl (by decide) rfl rfl rfl rfl rfl rfl hl.1 (Nat.le_of_ble_eq_true rfl) dX5_finish_56 ⟨Nat.zero_le _, Nat.zero_le _⟩ (fun H locs hP hD hS => ?_)
      obtain ⟨r5, hcr5, hM⟩ := ob_use hM
      refine cl_V (As := [.int r4]) (rest := []) (w_Writer_this_tree_names_out cI ad o_tree o_names r5) [] ⟨hx, hb, hml, hown, hts⟩ (c_Writer_token l D cI sd ad o_names o_out r4 r5 hcr5) (cwV2 hts q872 mvX5_token rfl rfl ⟨(Nat.le_of_ble_eq_true rfl), (Nat.le_of_ble_eq_true rfl)⟩) hK hE hA hP hD hS 0 (T := TX5) (N := 3) (ci := 5) rfl rfl [0, 9, 10, 11, 12, 13, 14, 15] rfl (by decide) rfl rfl rfl rfl rfl rfl hl.1 (Nat.le_of_ble_eq_true rfl) dX5_finish_59 ⟨Nat.zero_le _, Nat.zero_le _⟩ (fun H locs hP hD hS => ?_)
      refine lv_iload_n hx hb dX5_finish_62 rfl (lv_at hl 0 rfl) ?_
      obtain ⟨r6, hcr6, hM⟩ := ob_use hM
      refine cl_S (As := [.int r1]) (rest := []) (w_Writer_this_tree_names_out cI ad o_tree o_names r5) (.int r6 :: []) ⟨hx, hb, hml, hown, hts⟩ (c_Writer_endsBySemicolon l D cI sd ad r1 r6 hcr6) (cwS2 hts q901 mvX5_endsBySemicolon rfl rfl ⟨(Nat.le_of_ble_eq_true rfl), (Nat.le_of_ble_eq_true rfl)⟩) hK hE hA hP hD hS [] rfl (by decide) rfl rfl rfl rfl rfl rfl hl.1 (Nat.le_of_ble_eq_true rfl) dX5_finish_63 ⟨Nat.zero_le _, Nat.zero_le _⟩ (fun H locs hP hD hS => ?_)
      refine lv_if_eq (tgt := 75) hx hb dX5_finish_66 (by decide) (fun c7 => ?_) (fun c7 => ?_)
      · replace hM := if_t c7 hM
        cases hM
        exact rt_v hx hb hr hlk hP hD hS rfl dX5_finish_75
      · replace hM := if_f c7 hM
        refine lv_aload_n hx hb dX5_finish_69 rfl (lv_at hl 1 rfl) ?_
        refine lv_bipush (v := 59) hx hb dX5_finish_70 (by decide) ?_
        obtain ⟨r8, hcr8, hM⟩ := ob_use hM
        refine cl_V (As := [.int 59]) (rest := []) (w_Writer_this_tree_names_out cI ad o_tree o_names r8) [] ⟨hx, hb, hml, hown, hts⟩ (c_Writer_token l D cI sd ad o_names r5 59 r8 hcr8) (cwV2 hts q872 mvX5_token rfl rfl ⟨(Nat.le_of_ble_eq_true rfl), (Nat.le_of_ble_eq_true rfl)⟩) hK hE hA hP hD hS 0 (T := TX5) (N := 3) (ci := 5) rfl rfl [0, 9, 10, 11, 12, 13, 14, 15] rfl (by decide) rfl rfl rfl rfl rfl rfl hl.1 (Nat.le_of_ble_eq_true rfl) dX5_finish_72 ⟨Nat.zero_le _, Nat.zero_le _⟩ (fun H locs hP hD hS => ?_)
        cases hM
        exact rt_v hx hb hr hlk hP hD hS rfl dX5_finish_75
    · replace hM := if_t c3 hM
      refine lv_aload_n hx hb dX5_finish_40 rfl (lv_at hl 1 rfl) ?_
      refine lv_iload_n hx hb dX5_finish_41 rfl (lv_at hl 2 rfl) ?_
      obtain ⟨r9, hcr9, hM⟩ := ob_use hM
      refine cl_V (As := [.int a1]) (rest := []) (w_Writer_this_tree_names_out cI ad o_tree o_names o_out) (.int r9 :: []) ⟨hx, hb, hml, hown, hts⟩ (c_Writer_isBracketed l D cI sd ad o_tree a1 r9 hcr9) (cwV2 hts q888 mvX5_isBracketed rfl rfl ⟨(Nat.le_of_ble_eq_true rfl), (Nat.le_of_ble_eq_true rfl)⟩) hK hE hA hP hD hS 0 (T := TX5) (N := 3) (ci := 5) rfl rfl [0, 1, 2, 3, 4, 5, 6, 7, 8] rfl (by decide) rfl rfl rfl rfl rfl rfl hl.1 (Nat.le_of_ble_eq_true rfl) dX5_finish_42 ⟨Nat.zero_le _, Nat.zero_le _⟩ (fun H locs hP hD hS => ?_)
      refine lv_if_eq (tgt := 54) hx hb dX5_finish_45 (by decide) (fun c10 => ?_) (fun c10 => ?_)
      · replace hM := if_t c10 hM
        refine lv_aload_n hx hb dX5_finish_54 rfl (lv_at hl 1 rfl) ?_
        refine lv_iload_n hx hb dX5_finish_55 rfl (lv_at hl 0 rfl) ?_
        obtain ⟨r11, hcr11, hM⟩ := ob_use hM
        refine cl_S (As := [.int r1]) (rest := [.ref (ad 23)]) (w_Writer_this_tree_names_out cI ad o_tree o_names o_out) (.int r11 :: [.ref (ad 23)]) ⟨hx, hb, hml, hown, hts⟩ (c_Writer_lastToken l D cI sd ad r1 r11 hcr11) (cwS2 hts q898 mvX5_lastToken rfl rfl ⟨(Nat.le_of_ble_eq_true rfl), (Nat.le_of_ble_eq_true rfl)⟩) hK hE hA hP hD hS [] rfl (by decide) rfl rfl rfl rfl rfl rfl hl.1 (Nat.le_of_ble_eq_true rfl) dX5_finish_56 ⟨Nat.zero_le _, Nat.zero_le _⟩ (fun H locs hP hD hS => ?_)
        obtain ⟨r12, hcr12, hM⟩ := ob_use hM
        refine cl_V (As := [.int r11]) (rest := []) (w_Writer_this_tree_names_out cI ad o_tree o_names r12) [] ⟨hx, hb, hml, hown, hts⟩ (c_Writer_token l D cI sd ad o_names o_out r11 r12 hcr12) (cwV2 hts q872 mvX5_token rfl rfl ⟨(Nat.le_of_ble_eq_true rfl), (Nat.le_of_ble_eq_true rfl)⟩) hK hE hA hP hD hS 0 (T := TX5) (N := 3) (ci := 5) rfl rfl [0, 9, 10, 11, 12, 13, 14, 15] rfl (by decide) rfl rfl rfl rfl rfl rfl hl.1 (Nat.le_of_ble_eq_true rfl) dX5_finish_59 ⟨Nat.zero_le _, Nat.zero_le _⟩ (fun H locs hP hD hS => ?_)
        refine lv_iload_n hx hb dX5_finish_62 rfl (lv_at hl 0 rfl) ?_
        obtain ⟨r13, hcr13, hM⟩ := ob_use hM
        refine cl_S (As := [.int r1]) (rest := []) (w_Writer_this_tree_names_out cI ad o_tree o_names r12) (.int r13 :: []) ⟨hx, hb, hml, hown, hts⟩ (c_Writer_endsBySemicolon l D cI sd ad r1 r13 hcr13) (cwS2 hts q901 mvX5_endsBySemicolon rfl rfl ⟨(Nat.le_of_ble_eq_true rfl), (Nat.le_of_ble_eq_true rfl)⟩) hK hE hA hP hD hS [] rfl (by decide) rfl rfl rfl rfl rfl rfl hl.1 (Nat.le_of_ble_eq_true rfl) dX5_finish_63 ⟨Nat.zero_le _, Nat.zero_le _⟩ (fun H locs hP hD hS => ?_)
        refine lv_if_eq (tgt := 75) hx hb dX5_finish_66 (by decide) (fun c14 => ?_) (fun c14 => ?_)
        · replace hM := if_t c14 hM
          cases hM
          exact rt_v hx hb hr hlk hP hD hS rfl dX5_finish_75
        · replace hM := if_f c14 hM
          refine lv_aload_n hx hb dX5_finish_69 rfl (lv_at hl 1 rfl) ?_
          refine lv_bipush (v := 59) hx hb dX5_finish_70 (by decide) ?_
          obtain ⟨r15, hcr15, hM⟩ := ob_use hM
          refine cl_V (As := [.int 59]) (rest := []) (w_Writer_this_tree_names_out cI ad o_tree o_names r15) [] ⟨hx, hb, hml, hown, hts⟩ (c_Writer_token l D cI sd ad o_names r12 59 r15 hcr15) (cwV2 hts q872 mvX5_token rfl rfl ⟨(Nat.le_of_ble_eq_true rfl), (Nat.le_of_ble_eq_true rfl)⟩) hK hE hA hP hD hS 0 (T := TX5) (N := 3) (ci := 5) rfl rfl [0, 9, 10, 11, 12, 13, 14, 15] rfl (by decide) rfl rfl rfl rfl rfl rfl hl.1 (Nat.le_of_ble_eq_true rfl) dX5_finish_72 ⟨Nat.zero_le _, Nat.zero_le _⟩ (fun H locs hP hD hS => ?_)
          cases hM
          exact rt_v hx hb hr hlk hP hD hS rfl dX5_finish_75
      · replace hM := if_f c10 hM
        refine lv_aload_n hx hb dX5_finish_48 rfl (lv_at hl 1 rfl) ?_
        refine lv_bipush (v := 41) hx hb dX5_finish_49 (by decide) ?_
        obtain ⟨r16, hcr16, hM⟩ := ob_use hM
        refine cl_V (As := [.int 41]) (rest := []) (w_Writer_this_tree_names_out cI ad o_tree o_names r16) [] ⟨hx, hb, hml, hown, hts⟩ (c_Writer_token l D cI sd ad o_names o_out 41 r16 hcr16) (cwV2 hts q872 mvX5_token rfl rfl ⟨(Nat.le_of_ble_eq_true rfl), (Nat.le_of_ble_eq_true rfl)⟩) hK hE hA hP hD hS 0 (T := TX5) (N := 3) (ci := 5) rfl rfl [0, 9, 10, 11, 12, 13, 14, 15] rfl (by decide) rfl rfl rfl rfl rfl rfl hl.1 (Nat.le_of_ble_eq_true rfl) dX5_finish_51 ⟨Nat.zero_le _, Nat.zero_le _⟩ (fun H locs hP hD hS => ?_)
        refine lv_aload_n hx hb dX5_finish_54 rfl (lv_at hl 1 rfl) ?_
        refine lv_iload_n hx hb dX5_finish_55 rfl (lv_at hl 0 rfl) ?_
        obtain ⟨r17, hcr17, hM⟩ := ob_use hM
        refine cl_S (As := [.int r1]) (rest := [.ref (ad 23)]) (w_Writer_this_tree_names_out cI ad o_tree o_names r16) (.int r17 :: [.ref (ad 23)]) ⟨hx, hb, hml, hown, hts⟩ (c_Writer_lastToken l D cI sd ad r1 r17 hcr17) (cwS2 hts q898 mvX5_lastToken rfl rfl ⟨(Nat.le_of_ble_eq_true rfl), (Nat.le_of_ble_eq_true rfl)⟩) hK hE hA hP hD hS [] rfl (by decide) rfl rfl rfl rfl rfl rfl hl.1 (Nat.le_of_ble_eq_true rfl) dX5_finish_56 ⟨Nat.zero_le _, Nat.zero_le _⟩ (fun H locs hP hD hS => ?_)
        obtain ⟨r18, hcr18, hM⟩ := ob_use hM
        refine cl_V (As := [.int r17]) (rest := []) (w_Writer_this_tree_names_out cI ad o_tree o_names r18) [] ⟨hx, hb, hml, hown, hts⟩ (c_Writer_token l D cI sd ad o_names r16 r17 r18 hcr18) (cwV2 hts q872 mvX5_token rfl rfl ⟨(Nat.le_of_ble_eq_true rfl), (Nat.le_of_ble_eq_true rfl)⟩) hK hE hA hP hD hS 0 (T := TX5) (N := 3) (ci := 5) rfl rfl [0, 9, 10, 11, 12, 13, 14, 15] rfl (by decide) rfl rfl rfl rfl rfl rfl hl.1 (Nat.le_of_ble_eq_true rfl) dX5_finish_59 ⟨Nat.zero_le _, Nat.zero_le _⟩ (fun H locs hP hD hS => ?_)
        refine lv_iload_n hx hb dX5_finish_62 rfl (lv_at hl 0 rfl) ?_
        obtain ⟨r19, hcr19, hM⟩ := ob_use hM
        refine cl_S (As := [.int r1]) (rest := []) (w_Writer_this_tree_names_out cI ad o_tree o_names r18) (.int r19 :: []) ⟨hx, hb, hml, hown, hts⟩ (c_Writer_endsBySemicolon l D cI sd ad r1 r19 hcr19) (cwS2 hts q901 mvX5_endsBySemicolon rfl rfl ⟨(Nat.le_of_ble_eq_true rfl), (Nat.le_of_ble_eq_true rfl)⟩) hK hE hA hP hD hS [] rfl (by decide) rfl rfl rfl rfl rfl rfl hl.1 (Nat.le_of_ble_eq_true rfl) dX5_finish_63 ⟨Nat.zero_le _, Nat.zero_le _⟩ (fun H locs hP hD hS => ?_)
        refine lv_if_eq (tgt := 75) hx hb dX5_finish_66 (by decide) (fun c20 => ?_) (fun c20 => ?_)
        · replace hM := if_t c20 hM
          cases hM
          exact rt_v hx hb hr hlk hP hD hS rfl dX5_finish_75
        · replace hM := if_f c20 hM
          refine lv_aload_n hx hb dX5_finish_69 rfl (lv_at hl 1 rfl) ?_
          refine lv_bipush (v := 59) hx hb dX5_finish_70 (by decide) ?_
          obtain ⟨r21, hcr21, hM⟩ := ob_use hM
          refine cl_V (As := [.int 59]) (rest := []) (w_Writer_this_tree_names_out cI ad o_tree o_names r21) [] ⟨hx, hb, hml, hown, hts⟩ (c_Writer_token l D cI sd ad o_names r18 59 r21 hcr21) (cwV2 hts q872 mvX5_token rfl rfl ⟨(Nat.le_of_ble_eq_true rfl), (Nat.le_of_ble_eq_true rfl)⟩) hK hE hA hP hD hS 0 (T := TX5) (N := 3) (ci := 5) rfl rfl [0, 9, 10, 11, 12, 13, 14, 15] rfl (by decide) rfl rfl rfl rfl rfl rfl hl.1 (Nat.le_of_ble_eq_true rfl) dX5_finish_72 ⟨Nat.zero_le _, Nat.zero_le _⟩ (fun H locs hP hD hS => ?_)
          cases hM
          exact rt_v hx hb hr hlk hP hD hS rfl dX5_finish_75
  · replace hM := if_t c2 hM
    refine lv_aload_n hx hb dX5_finish_15 rfl (lv_at hl 1 rfl) ?_
    refine va_get (D := D) (ci := 5) (v := .ref (ad 14)) (C := RX5) (T := TX5) (N := 3) hx hb hts layX5 hown hK hP 0 rfl rfl 0 (by decide) (hts _ (inA q442)) (fun _ h9 => h9) rfl dX5_finish_16 ?_
    refine lv_iload_n hx hb dX5_finish_19 rfl (lv_at hl 2 rfl) ?_
    obtain ⟨r22, hcr22, hM⟩ := ob_use hM
    refine cl_V (As := [.int a1]) (rest := []) (w_Writer_this_tree_names_out cI ad o_tree o_names o_out) (.int r22 :: []) ⟨hx, hb, hml, hown, hts⟩ (c_Tree_children l D cI sd ad o_tree a1 r22 hcr22) (cwV2 hts q871 mvX3_children rfl rfl ⟨(Nat.le_of_ble_eq_true rfl), (Nat.le_of_ble_eq_true rfl)⟩) hK hE hA hP hD hS 1 (T := TX3) (N := 8) (ci := 3) rfl rfl [1, 2, 3, 4, 5, 6, 7, 8] rfl (by decide) rfl rfl rfl rfl rfl rfl hl.1 (Nat.le_of_ble_eq_true rfl) dX5_finish_20 ⟨Nat.zero_le _, Nat.zero_le _⟩ (fun H locs hP hD hS => ?_)
    refine lv_iconst (v := 1) hx hb dX5_finish_23 (by decide) ?_
    refine lv_icmp_ne (tgt := 34) hx hb dX5_finish_24 (by decide) (fun c23 => ?_) (fun c23 => ?_)
    · replace hM := if_f c23 hM
      refine lv_iload_n hx hb dX5_finish_34 rfl (lv_at hl 0 rfl) ?_
      refine lv_bipush (v := 35) hx hb dX5_finish_35 (by decide) ?_
      refine lv_icmp_ne (tgt := 54) hx hb dX5_finish_37 (by decide) (fun c24 => ?_) (fun c24 => ?_)
      · replace hM := if_f c24 hM
        refine lv_aload_n hx hb dX5_finish_54 rfl (lv_at hl 1 rfl) ?_
        refine lv_iload_n hx hb dX5_finish_55 rfl (lv_at hl 0 rfl) ?_
        obtain ⟨r25, hcr25, hM⟩ := ob_use hM
        refine cl_S (As := [.int r1]) (rest := [.ref (ad 23)]) (w_Writer_this_tree_names_out cI ad o_tree o_names o_out) (.int r25 :: [.ref (ad 23)]) ⟨hx, hb, hml, hown, hts⟩ (c_Writer_lastToken l D cI sd ad r1 r25 hcr25) (cwS2 hts q898 mvX5_lastToken rfl rfl ⟨(Nat.le_of_ble_eq_true rfl), (Nat.le_of_ble_eq_true rfl)⟩) hK hE hA hP hD hS [] rfl (by decide) rfl rfl rfl rfl rfl rfl hl.1 (Nat.le_of_ble_eq_true rfl) dX5_finish_56 ⟨Nat.zero_le _, Nat.zero_le _⟩ (fun H locs hP hD hS => ?_)
        obtain ⟨r26, hcr26, hM⟩ := ob_use hM
        refine cl_V (As := [.int r25]) (rest := []) (w_Writer_this_tree_names_out cI ad o_tree o_names r26) [] ⟨hx, hb, hml, hown, hts⟩ (c_Writer_token l D cI sd ad o_names o_out r25 r26 hcr26) (cwV2 hts q872 mvX5_token rfl rfl ⟨(Nat.le_of_ble_eq_true rfl), (Nat.le_of_ble_eq_true rfl)⟩) hK hE hA hP hD hS 0 (T := TX5) (N := 3) (ci := 5) rfl rfl [0, 9, 10, 11, 12, 13, 14, 15] rfl (by decide) rfl rfl rfl rfl rfl rfl hl.1 (Nat.le_of_ble_eq_true rfl) dX5_finish_59 ⟨Nat.zero_le _, Nat.zero_le _⟩ (fun H locs hP hD hS => ?_)
        refine lv_iload_n hx hb dX5_finish_62 rfl (lv_at hl 0 rfl) ?_
        obtain ⟨r27, hcr27, hM⟩ := ob_use hM
        refine cl_S (As := [.int r1]) (rest := []) (w_Writer_this_tree_names_out cI ad o_tree o_names r26) (.int r27 :: []) ⟨hx, hb, hml, hown, hts⟩ (c_Writer_endsBySemicolon l D cI sd ad r1 r27 hcr27) (cwS2 hts q901 mvX5_endsBySemicolon rfl rfl ⟨(Nat.le_of_ble_eq_true rfl), (Nat.le_of_ble_eq_true rfl)⟩) hK hE hA hP hD hS [] rfl (by decide) rfl rfl rfl rfl rfl rfl hl.1 (Nat.le_of_ble_eq_true rfl) dX5_finish_63 ⟨Nat.zero_le _, Nat.zero_le _⟩ (fun H locs hP hD hS => ?_)
        refine lv_if_eq (tgt := 75) hx hb dX5_finish_66 (by decide) (fun c28 => ?_) (fun c28 => ?_)
        · replace hM := if_t c28 hM
          cases hM
          exact rt_v hx hb hr hlk hP hD hS rfl dX5_finish_75
        · replace hM := if_f c28 hM
          refine lv_aload_n hx hb dX5_finish_69 rfl (lv_at hl 1 rfl) ?_
          refine lv_bipush (v := 59) hx hb dX5_finish_70 (by decide) ?_
          obtain ⟨r29, hcr29, hM⟩ := ob_use hM
          refine cl_V (As := [.int 59]) (rest := []) (w_Writer_this_tree_names_out cI ad o_tree o_names r29) [] ⟨hx, hb, hml, hown, hts⟩ (c_Writer_token l D cI sd ad o_names r26 59 r29 hcr29) (cwV2 hts q872 mvX5_token rfl rfl ⟨(Nat.le_of_ble_eq_true rfl), (Nat.le_of_ble_eq_true rfl)⟩) hK hE hA hP hD hS 0 (T := TX5) (N := 3) (ci := 5) rfl rfl [0, 9, 10, 11, 12, 13, 14, 15] rfl (by decide) rfl rfl rfl rfl rfl rfl hl.1 (Nat.le_of_ble_eq_true rfl) dX5_finish_72 ⟨Nat.zero_le _, Nat.zero_le _⟩ (fun H locs hP hD hS => ?_)
          cases hM
          exact rt_v hx hb hr hlk hP hD hS rfl dX5_finish_75
      · replace hM := if_t c24 hM
        refine lv_aload_n hx hb dX5_finish_40 rfl (lv_at hl 1 rfl) ?_
        refine lv_iload_n hx hb dX5_finish_41 rfl (lv_at hl 2 rfl) ?_
        obtain ⟨r30, hcr30, hM⟩ := ob_use hM
        refine cl_V (As := [.int a1]) (rest := []) (w_Writer_this_tree_names_out cI ad o_tree o_names o_out) (.int r30 :: []) ⟨hx, hb, hml, hown, hts⟩ (c_Writer_isBracketed l D cI sd ad o_tree a1 r30 hcr30) (cwV2 hts q888 mvX5_isBracketed rfl rfl ⟨(Nat.le_of_ble_eq_true rfl), (Nat.le_of_ble_eq_true rfl)⟩) hK hE hA hP hD hS 0 (T := TX5) (N := 3) (ci := 5) rfl rfl [0, 1, 2, 3, 4, 5, 6, 7, 8] rfl (by decide) rfl rfl rfl rfl rfl rfl hl.1 (Nat.le_of_ble_eq_true rfl) dX5_finish_42 ⟨Nat.zero_le _, Nat.zero_le _⟩ (fun H locs hP hD hS => ?_)
        refine lv_if_eq (tgt := 54) hx hb dX5_finish_45 (by decide) (fun c31 => ?_) (fun c31 => ?_)
        · replace hM := if_t c31 hM
          refine lv_aload_n hx hb dX5_finish_54 rfl (lv_at hl 1 rfl) ?_
          refine lv_iload_n hx hb dX5_finish_55 rfl (lv_at hl 0 rfl) ?_
          obtain ⟨r32, hcr32, hM⟩ := ob_use hM
          refine cl_S (As := [.int r1]) (rest := [.ref (ad 23)]) (w_Writer_this_tree_names_out cI ad o_tree o_names o_out) (.int r32 :: [.ref (ad 23)]) ⟨hx, hb, hml, hown, hts⟩ (c_Writer_lastToken l D cI sd ad r1 r32 hcr32) (cwS2 hts q898 mvX5_lastToken rfl rfl ⟨(Nat.le_of_ble_eq_true rfl), (Nat.le_of_ble_eq_true rfl)⟩) hK hE hA hP hD hS [] rfl (by decide) rfl rfl rfl rfl rfl rfl hl.1 (Nat.le_of_ble_eq_true rfl) dX5_finish_56 ⟨Nat.zero_le _, Nat.zero_le _⟩ (fun H locs hP hD hS => ?_)
          obtain ⟨r33, hcr33, hM⟩ := ob_use hM
          refine cl_V (As := [.int r32]) (rest := []) (w_Writer_this_tree_names_out cI ad o_tree o_names r33) [] ⟨hx, hb, hml, hown, hts⟩ (c_Writer_token l D cI sd ad o_names o_out r32 r33 hcr33) (cwV2 hts q872 mvX5_token rfl rfl ⟨(Nat.le_of_ble_eq_true rfl), (Nat.le_of_ble_eq_true rfl)⟩) hK hE hA hP hD hS 0 (T := TX5) (N := 3) (ci := 5) rfl rfl [0, 9, 10, 11, 12, 13, 14, 15] rfl (by decide) rfl rfl rfl rfl rfl rfl hl.1 (Nat.le_of_ble_eq_true rfl) dX5_finish_59 ⟨Nat.zero_le _, Nat.zero_le _⟩ (fun H locs hP hD hS => ?_)
          refine lv_iload_n hx hb dX5_finish_62 rfl (lv_at hl 0 rfl) ?_
          obtain ⟨r34, hcr34, hM⟩ := ob_use hM
          refine cl_S (As := [.int r1]) (rest := []) (w_Writer_this_tree_names_out cI ad o_tree o_names r33) (.int r34 :: []) ⟨hx, hb, hml, hown, hts⟩ (c_Writer_endsBySemicolon l D cI sd ad r1 r34 hcr34) (cwS2 hts q901 mvX5_endsBySemicolon rfl rfl ⟨(Nat.le_of_ble_eq_true rfl), (Nat.le_of_ble_eq_true rfl)⟩) hK hE hA hP hD hS [] rfl (by decide) rfl rfl rfl rfl rfl rfl hl.1 (Nat.le_of_ble_eq_true rfl) dX5_finish_63 ⟨Nat.zero_le _, Nat.zero_le _⟩ (fun H locs hP hD hS => ?_)
          refine lv_if_eq (tgt := 75) hx hb dX5_finish_66 (by decide) (fun c35 => ?_) (fun c35 => ?_)
          · replace hM := if_t c35 hM
            cases hM
            exact rt_v hx hb hr hlk hP hD hS rfl dX5_finish_75
          · replace hM := if_f c35 hM
            refine lv_aload_n hx hb dX5_finish_69 rfl (lv_at hl 1 rfl) ?_
            refine lv_bipush (v := 59) hx hb dX5_finish_70 (by decide) ?_
            obtain ⟨r36, hcr36, hM⟩ := ob_use hM
            refine cl_V (As := [.int 59]) (rest := []) (w_Writer_this_tree_names_out cI ad o_tree o_names r36) [] ⟨hx, hb, hml, hown, hts⟩ (c_Writer_token l D cI sd ad o_names r33 59 r36 hcr36) (cwV2 hts q872 mvX5_token rfl rfl ⟨(Nat.le_of_ble_eq_true rfl), (Nat.le_of_ble_eq_true rfl)⟩) hK hE hA hP hD hS 0 (T := TX5) (N := 3) (ci := 5) rfl rfl [0, 9, 10, 11, 12, 13, 14, 15] rfl (by decide) rfl rfl rfl rfl rfl rfl hl.1 (Nat.le_of_ble_eq_true rfl) dX5_finish_72 ⟨Nat.zero_le _, Nat.zero_le _⟩ (fun H locs hP hD hS => ?_)
            cases hM
            exact rt_v hx hb hr hlk hP hD hS rfl dX5_finish_75
        · replace hM := if_f c31 hM
          refine lv_aload_n hx hb dX5_finish_48 rfl (lv_at hl 1 rfl) ?_
          refine lv_bipush (v := 41) hx hb dX5_finish_49 (by decide) ?_
          obtain ⟨r37, hcr37, hM⟩ := ob_use hM
          refine cl_V (As := [.int 41]) (rest := []) (w_Writer_this_tree_names_out cI ad o_tree o_names r37) [] ⟨hx, hb, hml, hown, hts⟩ (c_Writer_token l D cI sd ad o_names o_out 41 r37 hcr37) (cwV2 hts q872 mvX5_token rfl rfl ⟨(Nat.le_of_ble_eq_true rfl), (Nat.le_of_ble_eq_true rfl)⟩) hK hE hA hP hD hS 0 (T := TX5) (N := 3) (ci := 5) rfl rfl [0, 9, 10, 11, 12, 13, 14, 15] rfl (by decide) rfl rfl rfl rfl rfl rfl hl.1 (Nat.le_of_ble_eq_true rfl) dX5_finish_51 ⟨Nat.zero_le _, Nat.zero_le _⟩ (fun H locs hP hD hS => ?_)
          refine lv_aload_n hx hb dX5_finish_54 rfl (lv_at hl 1 rfl) ?_
          refine lv_iload_n hx hb dX5_finish_55 rfl (lv_at hl 0 rfl) ?_
          obtain ⟨r38, hcr38, hM⟩ := ob_use hM
          refine cl_S (As := [.int r1]) (rest := [.ref (ad 23)]) (w_Writer_this_tree_names_out cI ad o_tree o_names r37) (.int r38 :: [.ref (ad 23)]) ⟨hx, hb, hml, hown, hts⟩ (c_Writer_lastToken l D cI sd ad r1 r38 hcr38) (cwS2 hts q898 mvX5_lastToken rfl rfl ⟨(Nat.le_of_ble_eq_true rfl), (Nat.le_of_ble_eq_true rfl)⟩) hK hE hA hP hD hS [] rfl (by decide) rfl rfl rfl rfl rfl rfl hl.1 (Nat.le_of_ble_eq_true rfl) dX5_finish_56 ⟨Nat.zero_le _, Nat.zero_le _⟩ (fun H locs hP hD hS => ?_)
          obtain ⟨r39, hcr39, hM⟩ := ob_use hM
          refine cl_V (As := [.int r38]) (rest := []) (w_Writer_this_tree_names_out cI ad o_tree o_names r39) [] ⟨hx, hb, hml, hown, hts⟩ (c_Writer_token l D cI sd ad o_names r37 r38 r39 hcr39) (cwV2 hts q872 mvX5_token rfl rfl ⟨(Nat.le_of_ble_eq_true rfl), (Nat.le_of_ble_eq_true rfl)⟩) hK hE hA hP hD hS 0 (T := TX5) (N := 3) (ci := 5) rfl rfl [0, 9, 10, 11, 12, 13, 14, 15] rfl (by decide) rfl rfl rfl rfl rfl rfl hl.1 (Nat.le_of_ble_eq_true rfl) dX5_finish_59 ⟨Nat.zero_le _, Nat.zero_le _⟩ (fun H locs hP hD hS => ?_)
          refine lv_iload_n hx hb dX5_finish_62 rfl (lv_at hl 0 rfl) ?_
          obtain ⟨r40, hcr40, hM⟩ := ob_use hM
          refine cl_S (As := [.int r1]) (rest := []) (w_Writer_this_tree_names_out cI ad o_tree o_names r39) (.int r40 :: []) ⟨hx, hb, hml, hown, hts⟩ (c_Writer_endsBySemicolon l D cI sd ad r1 r40 hcr40) (cwS2 hts q901 mvX5_endsBySemicolon rfl rfl ⟨(Nat.le_of_ble_eq_true rfl), (Nat.le_of_ble_eq_true rfl)⟩) hK hE hA hP hD hS [] rfl (by decide) rfl rfl rfl rfl rfl rfl hl.1 (Nat.le_of_ble_eq_true rfl) dX5_finish_63 ⟨Nat.zero_le _, Nat.zero_le _⟩ (fun H locs hP hD hS => ?_)
          refine lv_if_eq (tgt := 75) hx hb dX5_finish_66 (by decide) (fun c41 => ?_) (fun c41 => ?_)
          · replace hM := if_t c41 hM
            cases hM
            exact rt_v hx hb hr hlk hP hD hS rfl dX5_finish_75
          · replace hM := if_f c41 hM
            refine lv_aload_n hx hb dX5_finish_69 rfl (lv_at hl 1 rfl) ?_
            refine lv_bipush (v := 59) hx hb dX5_finish_70 (by decide) ?_
            obtain ⟨r42, hcr42, hM⟩ := ob_use hM
            refine cl_V (As := [.int 59]) (rest := []) (w_Writer_this_tree_names_out cI ad o_tree o_names r42) [] ⟨hx, hb, hml, hown, hts⟩ (c_Writer_token l D cI sd ad o_names r39 59 r42 hcr42) (cwV2 hts q872 mvX5_token rfl rfl ⟨(Nat.le_of_ble_eq_true rfl), (Nat.le_of_ble_eq_true rfl)⟩) hK hE hA hP hD hS 0 (T := TX5) (N := 3) (ci := 5) rfl rfl [0, 9, 10, 11, 12, 13, 14, 15] rfl (by decide) rfl rfl rfl rfl rfl rfl hl.1 (Nat.le_of_ble_eq_true rfl) dX5_finish_72 ⟨Nat.zero_le _, Nat.zero_le _⟩ (fun H locs hP hD hS => ?_)
            cases hM
            exact rt_v hx hb hr hlk hP hD hS rfl dX5_finish_75
    · replace hM := if_t c23 hM
      refine lv_aload_n hx hb dX5_finish_27 rfl (lv_at hl 1 rfl) ?_
      refine lv_sipush (v := 271) hx hb dX5_finish_28 (by decide) ?_
      obtain ⟨r43, hcr43, hM⟩ := ob_use hM
      refine cl_V (As := [.int 271]) (rest := []) (w_Writer_this_tree_names_out cI ad o_tree o_names r43) [] ⟨hx, hb, hml, hown, hts⟩ (c_Writer_token l D cI sd ad o_names o_out 271 r43 hcr43) (cwV2 hts q872 mvX5_token rfl rfl ⟨(Nat.le_of_ble_eq_true rfl), (Nat.le_of_ble_eq_true rfl)⟩) hK hE hA hP hD hS 0 (T := TX5) (N := 3) (ci := 5) rfl rfl [0, 9, 10, 11, 12, 13, 14, 15] rfl (by decide) rfl rfl rfl rfl rfl rfl hl.1 (Nat.le_of_ble_eq_true rfl) dX5_finish_31 ⟨Nat.zero_le _, Nat.zero_le _⟩ (fun H locs hP hD hS => ?_)
      refine lv_iload_n hx hb dX5_finish_34 rfl (lv_at hl 0 rfl) ?_
      refine lv_bipush (v := 35) hx hb dX5_finish_35 (by decide) ?_
      refine lv_icmp_ne (tgt := 54) hx hb dX5_finish_37 (by decide) (fun c44 => ?_) (fun c44 => ?_)
      · replace hM := if_f c44 hM
        refine lv_aload_n hx hb dX5_finish_54 rfl (lv_at hl 1 rfl) ?_
        refine lv_iload_n hx hb dX5_finish_55 rfl (lv_at hl 0 rfl) ?_
        obtain ⟨r45, hcr45, hM⟩ := ob_use hM
        refine cl_S (As := [.int r1]) (rest := [.ref (ad 23)]) (w_Writer_this_tree_names_out cI ad o_tree o_names r43) (.int r45 :: [.ref (ad 23)]) ⟨hx, hb, hml, hown, hts⟩ (c_Writer_lastToken l D cI sd ad r1 r45 hcr45) (cwS2 hts q898 mvX5_lastToken rfl rfl ⟨(Nat.le_of_ble_eq_true rfl), (Nat.le_of_ble_eq_true rfl)⟩) hK hE hA hP hD hS [] rfl (by decide) rfl rfl rfl rfl rfl rfl hl.1 (Nat.le_of_ble_eq_true rfl) dX5_finish_56 ⟨Nat.zero_le _, Nat.zero_le _⟩ (fun H locs hP hD hS => ?_)
        obtain ⟨r46, hcr46, hM⟩ := ob_use hM
        refine cl_V (As := [.int r45]) (rest := []) (w_Writer_this_tree_names_out cI ad o_tree o_names r46) [] ⟨hx, hb, hml, hown, hts⟩ (c_Writer_token l D cI sd ad o_names r43 r45 r46 hcr46) (cwV2 hts q872 mvX5_token rfl rfl ⟨(Nat.le_of_ble_eq_true rfl), (Nat.le_of_ble_eq_true rfl)⟩) hK hE hA hP hD hS 0 (T := TX5) (N := 3) (ci := 5) rfl rfl [0, 9, 10, 11, 12, 13, 14, 15] rfl (by decide) rfl rfl rfl rfl rfl rfl hl.1 (Nat.le_of_ble_eq_true rfl) dX5_finish_59 ⟨Nat.zero_le _, Nat.zero_le _⟩ (fun H locs hP hD hS => ?_)
        refine lv_iload_n hx hb dX5_finish_62 rfl (lv_at hl 0 rfl) ?_
        obtain ⟨r47, hcr47, hM⟩ := ob_use hM
        refine cl_S (As := [.int r1]) (rest := []) (w_Writer_this_tree_names_out cI ad o_tree o_names r46) (.int r47 :: []) ⟨hx, hb, hml, hown, hts⟩ (c_Writer_endsBySemicolon l D cI sd ad r1 r47 hcr47) (cwS2 hts q901 mvX5_endsBySemicolon rfl rfl ⟨(Nat.le_of_ble_eq_true rfl), (Nat.le_of_ble_eq_true rfl)⟩) hK hE hA hP hD hS [] rfl (by decide) rfl rfl rfl rfl rfl rfl hl.1 (Nat.le_of_ble_eq_true rfl) dX5_finish_63 ⟨Nat.zero_le _, Nat.zero_le _⟩ (fun H locs hP hD hS => ?_)
        refine lv_if_eq (tgt := 75) hx hb dX5_finish_66 (by decide) (fun c48 => ?_) (fun c48 => ?_)
        · replace hM := if_t c48 hM
          cases hM
          exact rt_v hx hb hr hlk hP hD hS rfl dX5_finish_75
        · replace hM := if_f c48 hM
          refine lv_aload_n hx hb dX5_finish_69 rfl (lv_at hl 1 rfl) ?_
          refine lv_bipush (v := 59) hx hb dX5_finish_70 (by decide) ?_
          obtain ⟨r49, hcr49, hM⟩ := ob_use hM
          refine cl_V (As := [.int 59]) (rest := []) (w_Writer_this_tree_names_out cI ad o_tree o_names r49) [] ⟨hx, hb, hml, hown, hts⟩ (c_Writer_token l D cI sd ad o_names r46 59 r49 hcr49) (cwV2 hts q872 mvX5_token rfl rfl ⟨(Nat.le_of_ble_eq_true rfl), (Nat.le_of_ble_eq_true rfl)⟩) hK hE hA hP hD hS 0 (T := TX5) (N := 3) (ci := 5) rfl rfl [0, 9, 10, 11, 12, 13, 14, 15] rfl (by decide) rfl rfl rfl rfl rfl rfl hl.1 (Nat.le_of_ble_eq_true rfl) dX5_finish_72 ⟨Nat.zero_le _, Nat.zero_le _⟩ (fun H locs hP hD hS => ?_)
          cases hM
          exact rt_v hx hb hr hlk hP hD hS rfl dX5_finish_75
      · replace hM := if_t c44 hM
        refine lv_aload_n hx hb dX5_finish_40 rfl (lv_at hl 1 rfl) ?_
        refine lv_iload_n hx hb dX5_finish_41 rfl (lv_at hl 2 rfl) ?_
        obtain ⟨r50, hcr50, hM⟩ := ob_use hM
        refine cl_V (As := [.int a1]) (rest := []) (w_Writer_this_tree_names_out cI ad o_tree o_names r43) (.int r50 :: []) ⟨hx, hb, hml, hown, hts⟩ (c_Writer_isBracketed l D cI sd ad o_tree a1 r50 hcr50) (cwV2 hts q888 mvX5_isBracketed rfl rfl ⟨(Nat.le_of_ble_eq_true rfl), (Nat.le_of_ble_eq_true rfl)⟩) hK hE hA hP hD hS 0 (T := TX5) (N := 3) (ci := 5) rfl rfl [0, 1, 2, 3, 4, 5, 6, 7, 8] rfl (by decide) rfl rfl rfl rfl rfl rfl hl.1 (Nat.le_of_ble_eq_true rfl) dX5_finish_42 ⟨Nat.zero_le _, Nat.zero_le _⟩ (fun H locs hP hD hS => ?_)
        refine lv_if_eq (tgt := 54) hx hb dX5_finish_45 (by decide) (fun c51 => ?_) (fun c51 => ?_)
        · replace hM := if_t c51 hM
          refine lv_aload_n hx hb dX5_finish_54 rfl (lv_at hl 1 rfl) ?_
          refine lv_iload_n hx hb dX5_finish_55 rfl (lv_at hl 0 rfl) ?_
          obtain ⟨r52, hcr52, hM⟩ := ob_use hM
          refine cl_S (As := [.int r1]) (rest := [.ref (ad 23)]) (w_Writer_this_tree_names_out cI ad o_tree o_names r43) (.int r52 :: [.ref (ad 23)]) ⟨hx, hb, hml, hown, hts⟩ (c_Writer_lastToken l D cI sd ad r1 r52 hcr52) (cwS2 hts q898 mvX5_lastToken rfl rfl ⟨(Nat.le_of_ble_eq_true rfl), (Nat.le_of_ble_eq_true rfl)⟩) hK hE hA hP hD hS [] rfl (by decide) rfl rfl rfl rfl rfl rfl hl.1 (Nat.le_of_ble_eq_true rfl) dX5_finish_56 ⟨Nat.zero_le _, Nat.zero_le _⟩ (fun H locs hP hD hS => ?_)
          obtain ⟨r53, hcr53, hM⟩ := ob_use hM
          refine cl_V (As := [.int r52]) (rest := []) (w_Writer_this_tree_names_out cI ad o_tree o_names r53) [] ⟨hx, hb, hml, hown, hts⟩ (c_Writer_token l D cI sd ad o_names r43 r52 r53 hcr53) (cwV2 hts q872 mvX5_token rfl rfl ⟨(Nat.le_of_ble_eq_true rfl), (Nat.le_of_ble_eq_true rfl)⟩) hK hE hA hP hD hS 0 (T := TX5) (N := 3) (ci := 5) rfl rfl [0, 9, 10, 11, 12, 13, 14, 15] rfl (by decide) rfl rfl rfl rfl rfl rfl hl.1 (Nat.le_of_ble_eq_true rfl) dX5_finish_59 ⟨Nat.zero_le _, Nat.zero_le _⟩ (fun H locs hP hD hS => ?_)
          refine lv_iload_n hx hb dX5_finish_62 rfl (lv_at hl 0 rfl) ?_
          obtain ⟨r54, hcr54, hM⟩ := ob_use hM
          refine cl_S (As := [.int r1]) (rest := []) (w_Writer_this_tree_names_out cI ad o_tree o_names r53) (.int r54 :: []) ⟨hx, hb, hml, hown, hts⟩ (c_Writer_endsBySemicolon l D cI sd ad r1 r54 hcr54) (cwS2 hts q901 mvX5_endsBySemicolon rfl rfl ⟨(Nat.le_of_ble_eq_true rfl), (Nat.le_of_ble_eq_true rfl)⟩) hK hE hA hP hD hS [] rfl (by decide) rfl rfl rfl rfl rfl rfl hl.1 (Nat.le_of_ble_eq_true rfl) dX5_finish_63 ⟨Nat.zero_le _, Nat.zero_le _⟩ (fun H locs hP hD hS => ?_)
          refine lv_if_eq (tgt := 75) hx hb dX5_finish_66 (by decide) (fun c55 => ?_) (fun c55 => ?_)
          · replace hM := if_t c55 hM
            cases hM
            exact rt_v hx hb hr hlk hP hD hS rfl dX5_finish_75
          · replace hM := if_f c55 hM
            refine lv_aload_n hx hb dX5_finish_69 rfl (lv_at hl 1 rfl) ?_
            refine lv_bipush (v := 59) hx hb dX5_finish_70 (by decide) ?_
            obtain ⟨r56, hcr56, hM⟩ := ob_use hM
            refine cl_V (As := [.int 59]) (rest := []) (w_Writer_this_tree_names_out cI ad o_tree o_names r56) [] ⟨hx, hb, hml, hown, hts⟩ (c_Writer_token l D cI sd ad o_names r53 59 r56 hcr56) (cwV2 hts q872 mvX5_token rfl rfl ⟨(Nat.le_of_ble_eq_true rfl), (Nat.le_of_ble_eq_true rfl)⟩) hK hE hA hP hD hS 0 (T := TX5) (N := 3) (ci := 5) rfl rfl [0, 9, 10, 11, 12, 13, 14, 15] rfl (by decide) rfl rfl rfl rfl rfl rfl hl.1 (Nat.le_of_ble_eq_true rfl) dX5_finish_72 ⟨Nat.zero_le _, Nat.zero_le _⟩ (fun H locs hP hD hS => ?_)
            cases hM
            exact rt_v hx hb hr hlk hP hD hS rfl dX5_finish_75
        · replace hM := if_f c51 hM
          refine lv_aload_n hx hb dX5_finish_48 rfl (lv_at hl 1 rfl) ?_
          refine lv_bipush (v := 41) hx hb dX5_finish_49 (by decide) ?_
          obtain ⟨r57, hcr57, hM⟩ := ob_use hM
          refine cl_V (As := [.int 41]) (rest := []) (w_Writer_this_tree_names_out cI ad o_tree o_names r57) [] ⟨hx, hb, hml, hown, hts⟩ (c_Writer_token l D cI sd ad o_names r43 41 r57 hcr57) (cwV2 hts q872 mvX5_token rfl rfl ⟨(Nat.le_of_ble_eq_true rfl), (Nat.le_of_ble_eq_true rfl)⟩) hK hE hA hP hD hS 0 (T := TX5) (N := 3) (ci := 5) rfl rfl [0, 9, 10, 11, 12, 13, 14, 15] rfl (by decide) rfl rfl rfl rfl rfl rfl hl.1 (Nat.le_of_ble_eq_true rfl) dX5_finish_51 ⟨Nat.zero_le _, Nat.zero_le _⟩ (fun H locs hP hD hS => ?_)
          refine lv_aload_n hx hb dX5_finish_54 rfl (lv_at hl 1 rfl) ?_
          refine lv_iload_n hx hb dX5_finish_55 rfl (lv_at hl 0 rfl) ?_
          obtain ⟨r58, hcr58, hM⟩ := ob_use hM
          refine cl_S (As := [.int r1]) (rest := [.ref (ad 23)]) (w_Writer_this_tree_names_out cI ad o_tree o_names r57) (.int r58 :: [.ref (ad 23)]) ⟨hx, hb, hml, hown, hts⟩ (c_Writer_lastToken l D cI sd ad r1 r58 hcr58) (cwS2 hts q898 mvX5_lastToken rfl rfl ⟨(Nat.le_of_ble_eq_true rfl), (Nat.le_of_ble_eq_true rfl)⟩) hK hE hA hP hD hS [] rfl (by decide) rfl rfl rfl rfl rfl rfl hl.1 (Nat.le_of_ble_eq_true rfl) dX5_finish_56 ⟨Nat.zero_le _, Nat.zero_le _⟩ (fun H locs hP hD hS => ?_)
          obtain ⟨r59, hcr59, hM⟩ := ob_use hM
          refine cl_V (As := [.int r58]) (rest := []) (w_Writer_this_tree_names_out cI ad o_tree o_names r59) [] ⟨hx, hb, hml, hown, hts⟩ (c_Writer_token l D cI sd ad o_names r57 r58 r59 hcr59) (cwV2 hts q872 mvX5_token rfl rfl ⟨(Nat.le_of_ble_eq_true rfl), (Nat.le_of_ble_eq_true rfl)⟩) hK hE hA hP hD hS 0 (T := TX5) (N := 3) (ci := 5) rfl rfl [0, 9, 10, 11, 12, 13, 14, 15] rfl (by decide) rfl rfl rfl rfl rfl rfl hl.1 (Nat.le_of_ble_eq_true rfl) dX5_finish_59 ⟨Nat.zero_le _, Nat.zero_le _⟩ (fun H locs hP hD hS => ?_)
          refine lv_iload_n hx hb dX5_finish_62 rfl (lv_at hl 0 rfl) ?_
          obtain ⟨r60, hcr60, hM⟩ := ob_use hM
          refine cl_S (As := [.int r1]) (rest := []) (w_Writer_this_tree_names_out cI ad o_tree o_names r59) (.int r60 :: []) ⟨hx, hb, hml, hown, hts⟩ (c_Writer_endsBySemicolon l D cI sd ad r1 r60 hcr60) (cwS2 hts q901 mvX5_endsBySemicolon rfl rfl ⟨(Nat.le_of_ble_eq_true rfl), (Nat.le_of_ble_eq_true rfl)⟩) hK hE hA hP hD hS [] rfl (by decide) rfl rfl rfl rfl rfl rfl hl.1 (Nat.le_of_ble_eq_true rfl) dX5_finish_63 ⟨Nat.zero_le _, Nat.zero_le _⟩ (fun H locs hP hD hS => ?_)
          refine lv_if_eq (tgt := 75) hx hb dX5_finish_66 (by decide) (fun c61 => ?_) (fun c61 => ?_)
          · replace hM := if_t c61 hM
            cases hM
            exact rt_v hx hb hr hlk hP hD hS rfl dX5_finish_75
          · replace hM := if_f c61 hM
            refine lv_aload_n hx hb dX5_finish_69 rfl (lv_at hl 1 rfl) ?_
            refine lv_bipush (v := 59) hx hb dX5_finish_70 (by decide) ?_
            obtain ⟨r62, hcr62, hM⟩ := ob_use hM
            refine cl_V (As := [.int 59]) (rest := []) (w_Writer_this_tree_names_out cI ad o_tree o_names r62) [] ⟨hx, hb, hml, hown, hts⟩ (c_Writer_token l D cI sd ad o_names r59 59 r62 hcr62) (cwV2 hts q872 mvX5_token rfl rfl ⟨(Nat.le_of_ble_eq_true rfl), (Nat.le_of_ble_eq_true rfl)⟩) hK hE hA hP hD hS 0 (T := TX5) (N := 3) (ci := 5) rfl rfl [0, 9, 10, 11, 12, 13, 14, 15] rfl (by decide) rfl rfl rfl rfl rfl rfl hl.1 (Nat.le_of_ble_eq_true rfl) dX5_finish_72 ⟨Nat.zero_le _, Nat.zero_le _⟩ (fun H locs hP hD hS => ?_)
            cases hM
            exact rt_v hx hb hr hlk hP hD hS rfl dX5_finish_75

set_option maxHeartbeats 4000000 in
set_option maxRecDepth 100000 in
theorem c_Writer_finishUpTo (l : Launch) (D : va_G) (cI : ClassId) (sd : Nat → Nat) (ad : Nat → Nat) (o_tree : S_Tree) (o_names : S_Names) (o_out : S_Bytes) (a1 : Int32) (a2 : Int32) (res : S_Bytes) (hM : f_Writer_finishUpTo o_tree o_names o_out a1 a2 = some res) : Ctr l D cI sd yX5_finishUpTo (wsM yX5_finishUpTo cX5_finishUpTo 5 (Option.none : Option Jvm.ClassFile.FieldType)) { frames := 5, cells := 0, slots := 0, locals := 107 } [.ref (ad 23), .int a1, .int a2] (w_Writer_this_tree_names_out cI ad o_tree o_names o_out) (w_Writer_this_tree_names_out cI ad o_tree o_names res) none := by
  refine Ctr.of (cc := cX5_finishUpTo) (maxL := 5) (own := RX5) (by decide +kernel) rfl rfl (Nat.le_of_ble_eq_true rfl) ?_
  intro p e s m below meth c A ls hx hb hr hml hown hts hlk hK hE hA hP hD hS hl
  have hl : lv_has ls 5 [(0, .ref (ad 23)), (1, .int a1), (2, .int a2)] := hl
  unfold f_Writer_finishUpTo at hM
  refine lv_iload_n hx hb dX5_finishUpTo_0 rfl (lv_at hl 1 rfl) ?_
  refine lv_istore_n (lv' := [(3, .int a1), (0, .ref (ad 23)), (1, .int a1), (2, .int a2)]) hx hb dX5_finishUpTo_1 rfl hl (by decide) rfl (fun ls hl => ?_)
  refine lv_iconst (v := 0) hx hb dX5_finishUpTo_2 (by decide) ?_
  refine lv_istore (lv' := [(4, .int 0), (3, .int a1), (0, .ref (ad 23)), (1, .int a1), (2, .int a2)]) hx hb dX5_finishUpTo_3 hl (by decide) rfl (fun ls hl => ?_)
  have lp_L5 : ∀ (w2_L5 : Int32) (o_tree_L5 : S_Tree) (o_names_L5 : S_Names) (n : Nat) (v4_L5 : Int32) (v3_L5 : Int32) (o_out_L5 : S_Bytes) (out_L5 : S_Bytes) (H : Heap) (locs : List Loc) (ls : Array Slot), f_Writer_finishUpTo_L5 w2_L5 o_tree_L5 o_names_L5 n v4_L5 v3_L5 o_out_L5 = some out_L5 → va_P D vwCl (w_Writer_this_tree_names_out cI ad o_tree_L5 o_names_L5 o_out_L5) H → va_D A (w_Writer_this_tree_names_out cI ad o_tree_L5 o_names_L5 o_out_L5) → va_S A s.heap H locs → lv_has ls 5 [(4, .int v4_L5), (3, .int v3_L5), (0, .ref (ad 23)), (2, .int w2_L5)] → (∀ (H : Heap) (locs : List Loc) (ls : Array Slot), va_P D vwCl (w_Writer_this_tree_names_out cI ad o_tree_L5 o_names_L5 out_L5) H → va_D A (w_Writer_this_tree_names_out cI ad o_tree_L5 o_names_L5 out_L5) → va_S A s.heap H locs → lv_has ls 5 [(0, .ref (ad 23)), (2, .int w2_L5)] → W p l e { frames := 5, cells := 0, slots := 0, locals := 107 } s m [.ref (ad 23), .int a1, .int a2].toArray below meth c H locs 0 0 (MQ below (CQ D A (w_Writer_this_tree_names_out cI ad o_tree o_names res) none) [.ref (ad 23), .int a1, .int a2].toArray s 0 0 A) (F0 m 43 ls [])) → W p l e { frames := 5, cells := 0, slots := 0, locals := 107 } s m [.ref (ad 23), .int a1, .int a2].toArray below meth c H locs 0 0 (MQ below (CQ D A (w_Writer_this_tree_names_out cI ad o_tree o_names res) none) [.ref (ad 23), .int a1, .int a2].toArray s 0 0 A) (F0 m 5 ls []) := by
    intro w2_L5 o_tree_L5 o_names_L5 n
    induction n with
    | zero => intro v4_L5 v3_L5 o_out_L5 out_L5 H locs ls hM; exact absurd (show none = some _ from hM) (by simp)
    | succ n ih_L5 =>
      intro v4_L5 v3_L5 o_out_L5 out_L5 H locs ls hM hP hD hS hl kx_L5
      rw [f_Writer_finishUpTo_L5] at hM
      refine lv_iload hx hb dX5_finishUpTo_5 (lv_at hl 0 rfl) ?_
      refine lv_sipush (v := 16384) hx hb dX5_finishUpTo_7 (by decide) ?_
      refine lv_icmp_ge (tgt := 43) hx hb dX5_finishUpTo_10 (by decide) (fun c1151 => ?_) (fun c1151 => ?_)
      · replace hM := if_t c1151 hM
        cases hM
        exact kx_L5 _ _ _ hP hD hS (lv_sub hl [2, 3] rfl)
      · replace hM := if_f c1151 hM
        refine lv_iload_n hx hb dX5_finishUpTo_13 rfl (lv_at hl 1 rfl) ?_
        refine lv_iload_n hx hb dX5_finishUpTo_14 rfl (lv_at hl 3 rfl) ?_
        refine lv_icmp_eq (tgt := 43) hx hb dX5_finishUpTo_15 (by decide) (fun c1152 => ?_) (fun c1152 => ?_)
        · replace hM := if_t c1152 hM
          cases hM
          exact kx_L5 _ _ _ hP hD hS (lv_sub hl [2, 3] rfl)
        · replace hM := if_f c1152 hM
          refine lv_iload_n hx hb dX5_finishUpTo_18 rfl (lv_at hl 1 rfl) ?_
          refine lv_iconst (v := (-1)) hx hb dX5_finishUpTo_19 (by decide) ?_
          refine lv_icmp_eq (tgt := 43) hx hb dX5_finishUpTo_20 (by decide) (fun c1153 => ?_) (fun c1153 => ?_)
          · replace hM := if_t c1153 hM
            cases hM
            exact kx_L5 _ _ _ hP hD hS (lv_sub hl [2, 3] rfl)
          · replace hM := if_f c1153 hM
            refine lv_aload_n hx hb dX5_finishUpTo_23 rfl (lv_at hl 2 rfl) ?_
            refine lv_iload_n hx hb dX5_finishUpTo_24 rfl (lv_at hl 1 rfl) ?_
            obtain ⟨r1154, hcr1154, hM⟩ := ob_use hM
            refine cl_V (As := [.int v3_L5]) (rest := []) (w_Writer_this_tree_names_out cI ad o_tree_L5 o_names_L5 r1154) [] ⟨hx, hb, hml, hown, hts⟩ (c_Writer_finish l D cI sd ad o_tree_L5 o_names_L5 o_out_L5 v3_L5 r1154 hcr1154) (cwV2 hts q866 mvX5_finish rfl rfl ⟨(Nat.le_of_ble_eq_true rfl), (Nat.le_of_ble_eq_true rfl)⟩) hK hE hA hP hD hS 0 (T := TX5) (N := 3) (ci := 5) rfl rfl [0, 1, 2, 3, 4, 5, 6, 7, 8, 9, 10, 11, 12, 13, 14, 15] rfl (by decide) rfl rfl rfl rfl rfl rfl hl.1 (Nat.le_of_ble_eq_true rfl) dX5_finishUpTo_25 ⟨Nat.zero_le _, Nat.zero_le _⟩ (fun H locs hP hD hS => ?_)
            refine lv_aload_n hx hb dX5_finishUpTo_28 rfl (lv_at hl 2 rfl) ?_
            refine va_get (D := D) (ci := 5) (v := .ref (ad 14)) (C := RX5) (T := TX5) (N := 3) hx hb hts layX5 hown hK hP 0 rfl rfl 0 (by decide) (hts _ (inA q442)) (fun _ h9 => h9) rfl dX5_finishUpTo_29 ?_
            refine lv_iload_n hx hb dX5_finishUpTo_32 rfl (lv_at hl 1 rfl) ?_
            obtain ⟨r1155, hcr1155, hM⟩ := ob_use hM
            refine cl_V (As := [.int v3_L5]) (rest := []) (w_Writer_this_tree_names_out cI ad o_tree_L5 o_names_L5 r1154) (.int r1155 :: []) ⟨hx, hb, hml, hown, hts⟩ (c_Tree_parent l D cI sd ad o_tree_L5 v3_L5 r1155 hcr1155) (cwV2 hts q861 mvX3_parent rfl rfl ⟨(Nat.le_of_ble_eq_true rfl), (Nat.le_of_ble_eq_true rfl)⟩) hK hE hA hP hD hS 1 (T := TX3) (N := 8) (ci := 3) rfl rfl [1, 2, 3, 4, 5, 6, 7, 8] rfl (by decide) rfl rfl rfl rfl rfl rfl hl.1 (Nat.le_of_ble_eq_true rfl) dX5_finishUpTo_33 ⟨Nat.zero_le _, Nat.zero_le _⟩ (fun H locs hP hD hS => ?_)
            refine lv_istore_n (lv' := [(3, .int r1155), (4, .int v4_L5), (0, .ref (ad 23)), (2, .int w2_L5)]) hx hb dX5_finishUpTo_36 rfl hl (by decide) rfl (fun ls hl => ?_)
            obtain ⟨x1156, ex1156⟩ : ∃ y : Int32, y = v4_L5 + 1 := ⟨_, rfl⟩
            replace hM := nm_use ex1156 hM
            refine lv_iinc (v := x1156) (lv' := [(4, .int x1156), (3, .int r1155), (0, .ref (ad 23)), (2, .int w2_L5)]) hx hb dX5_finishUpTo_37 hl (k := 1) rfl (by rw [ex1156]; rfl) (by decide) rfl (fun ls hl => ?_)
            refine lv_goto (tgt := 5) hx hb dX5_finishUpTo_40 (by decide) ?_
            exact ih_L5 x1156 r1155 r1154 out_L5 _ _ _ hM hP hD hS (lv_sub hl [0, 1, 2, 3] rfl) kx_L5
  obtain ⟨r1, hcr1, hM⟩ := ob_use hM
  refine lp_L5 a2 o_tree o_names FU 0 a1 o_out r1 _ _ _ hcr1 hP hD hS (lv_sub hl [0, 1, 2, 4] rfl) (fun H locs ls hP hD hS hl => ?_)
  cases hM
  exact rt_v hx hb hr hlk hP hD hS rfl dX5_finishUpTo_43

set_option maxHeartbeats 4000000 in
set_option maxRecDepth 100000 in
theorem c_Writer_behindFirst (l : Launch) (D : va_G) (cI : ClassId) (sd : Nat → Nat) (ad : Nat → Nat) (a1 : Int32) (a2 : Int32) (res : Int32) (hM : f_Writer_behindFirst a1 a2 = some res) : Ctr l D cI sd yX5_behindFirst (wsM yX5_behindFirst cX5_behindFirst 2 (Option.some Jvm.ClassFile.FieldType.int)) { frames := 0, cells := 0, slots := 0, locals := 0 } [.int a1, .int a2] (([] : va_W)) (([] : va_W)) (some (.int res)) := by
  refine Ctr.of (cc := cX5_behindFirst) (maxL := 2) (own := RX5) (by decide +kernel) rfl rfl (Nat.le_of_ble_eq_true rfl) ?_
  intro p e s m below meth c A ls hx hb hr hml hown hts hlk hK hE hA hP hD hS hl
  have hl : lv_has ls 2 [(0, .int a1), (1, .int a2)] := hl
  unfold f_Writer_behindFirst at hM
  refine lv_iload_n hx hb dX5_behindFirst_0 rfl (lv_at hl 0 rfl) ?_
  refine lv_if_le (tgt := 8) hx hb dX5_behindFirst_1 (by decide) (fun c1 => ?_) (fun c1 => ?_)
  · replace hM := if_t c1 hM
    refine lv_iconst (v := (-1)) hx hb dX5_behindFirst_8 (by decide) ?_
    cases hM
    exact rt_i hx hb hr hlk hP hD hS rfl dX5_behindFirst_9
  · replace hM := if_f c1 hM
    refine lv_iload_n hx hb dX5_behindFirst_4 rfl (lv_at hl 1 rfl) ?_
    refine lv_goto (tgt := 9) hx hb dX5_behindFirst_5 (by decide) ?_
    cases hM
    exact rt_i hx hb hr hlk hP hD hS rfl dX5_behindFirst_9

set_option maxHeartbeats 4000000 in
set_option maxRecDepth 100000 in
theorem c_Writer_separatorInDeclaration (l : Launch) (D : va_G) (cI : ClassId) (sd : Nat → Nat) (ad : Nat → Nat) (a1 : Int32) (a2 : Int32) (res : Int32) (hM : f_Writer_separatorInDeclaration a1 a2 = some res) : Ctr l D cI sd yX5_separatorInDeclaration (wsM yX5_separatorInDeclaration cX5_separatorInDeclaration 2 (Option.some Jvm.ClassFile.FieldType.int)) { frames := 1, cells := 0, slots := 0, locals := 21 } [.int a1, .int a2] (([] : va_W)) (([] : va_W)) (some (.int res)) := by
  refine Ctr.of (cc := cX5_separatorInDeclaration) (maxL := 2) (own := RX5) (by decide +kernel) rfl rfl (Nat.le_of_ble_eq_true rfl) ?_
  intro p e s m below meth c A ls hx hb hr hml hown hts hlk hK hE hA hP hD hS hl
  have hl : lv_has ls 2 [(0, .int a1), (1, .int a2)] := hl
  unfold f_Writer_separatorInDeclaration at hM
  refine lv_iload_n hx hb dX5_separatorInDeclaration_0 rfl (lv_at hl 0 rfl) ?_
  by_cases c1 : a1 = 6
  · replace hM := if_t c1 hM
    refine lv_lookup (off := 43) (tgt := 44) hx hb dX5_separatorInDeclaration_1 (by decide) (by exact sw_hit c1 (by decide)) (by decide) ?_
    refine lv_iload_n hx hb dX5_separatorInDeclaration_44 rfl (lv_at hl 1 rfl) ?_
    refine lv_bipush (v := 44) hx hb dX5_separatorInDeclaration_45 (by decide) ?_
    obtain ⟨r2, hcr2, hM⟩ := ob_use hM
    refine cl_S (As := [.int a2, .int 44]) (rest := []) (([] : va_W)) (.int r2 :: []) ⟨hx, hb, hml, hown, hts⟩ (c_Writer_behindFirst l D cI sd ad a2 44 r2 hcr2) (cwS2 hts q919 mvX5_behindFirst rfl rfl ⟨(Nat.le_of_ble_eq_true rfl), (Nat.le_of_ble_eq_true rfl)⟩) hK hE hA hP hD hS [] rfl (by decide) rfl rfl rfl rfl rfl rfl hl.1 (Nat.le_of_ble_eq_true rfl) dX5_separatorInDeclaration_47 ⟨Nat.zero_le _, Nat.zero_le _⟩ (fun H locs hP hD hS => ?_)
    cases hM
    exact rt_i hx hb hr hlk hP hD hS rfl dX5_separatorInDeclaration_50
  replace hM := if_f c1 hM
  by_cases c3 : a1 = 7
  · replace hM := if_t c3 hM
    refine lv_lookup (off := 50) (tgt := 51) hx hb dX5_separatorInDeclaration_1 (by decide) (by rw [lv_osw c1 (by decide)]; exact sw_hit c3 (by decide)) (by decide) ?_
    refine lv_sipush (v := 266) hx hb dX5_separatorInDeclaration_51 (by decide) ?_
    cases hM
    exact rt_i hx hb hr hlk hP hD hS rfl dX5_separatorInDeclaration_54
  replace hM := if_f c3 hM
  by_cases c4 : a1 = 30
  · replace hM := if_t c4 hM
    refine lv_lookup (off := 54) (tgt := 55) hx hb dX5_separatorInDeclaration_1 (by decide) (by rw [lv_osw c1 (by decide)]; rw [lv_osw c3 (by decide)]; exact sw_hit c4 (by decide)) (by decide) ?_
    refine lv_sipush (v := 14909) hx hb dX5_separatorInDeclaration_55 (by decide) ?_
    cases hM
    exact rt_i hx hb hr hlk hP hD hS rfl dX5_separatorInDeclaration_58
  replace hM := if_f c4 hM
  by_cases c5 : a1 = 31
  · replace hM := if_t c5 hM
    refine lv_lookup (off := 54) (tgt := 55) hx hb dX5_separatorInDeclaration_1 (by decide) (by rw [lv_osw c1 (by decide)]; rw [lv_osw c3 (by decide)]; rw [lv_osw c4 (by decide)]; exact sw_hit c5 (by decide)) (by decide) ?_
    refine lv_sipush (v := 14909) hx hb dX5_separatorInDeclaration_55 (by decide) ?_
    cases hM
    exact rt_i hx hb hr hlk hP hD hS rfl dX5_separatorInDeclaration_58
  replace hM := if_f c5 hM
  refine lv_lookup (off := 58) (tgt := 59) hx hb dX5_separatorInDeclaration_1 (by decide) (by rw [lv_osw c1 (by decide)]; rw [lv_osw c3 (by decide)]; rw [lv_osw c4 (by decide)]; rw [lv_osw c5 (by decide)]; rfl) (by decide) ?_
  refine lv_bipush (v := 58) hx hb dX5_separatorInDeclaration_59 (by decide) ?_
  cases hM
  exact rt_i hx hb hr hlk hP hD hS rfl dX5_separatorInDeclaration_61

set_option maxHeartbeats 4000000 in
set_option maxRecDepth 100000 in
theorem c_Writer_separatorInFor (l : Launch) (D : va_G) (cI : ClassId) (sd : Nat → Nat) (ad : Nat → Nat) (a1 : Int32) (a2 : Int32) (res : Int32) (hM : f_Writer_separatorInFor a1 a2 = some res) : Ctr l D cI sd yX5_separatorInFor (wsM yX5_separatorInFor cX5_separatorInFor 2 (Option.some Jvm.ClassFile.FieldType.int)) { frames := 1, cells := 0, slots := 0, locals := 21 } [.int a1, .int a2] (([] : va_W)) (([] : va_W)) (some (.int res)) := by
  refine Ctr.of (cc := cX5_separatorInFor) (maxL := 2) (own := RX5) (by decide +kernel) rfl rfl (Nat.le_of_ble_eq_true rfl) ?_
  intro p e s m below meth c A ls hx hb hr hml hown hts hlk hK hE hA hP hD hS hl
  have hl : lv_has ls 2 [(0, .int a1), (1, .int a2)] := hl
  unfold f_Writer_separatorInFor at hM
  refine lv_iload_n hx hb dX5_separatorInFor_0 rfl (lv_at hl 0 rfl) ?_
  refine lv_bipush (v := 11) hx hb dX5_separatorInFor_1 (by decide) ?_
  refine lv_icmp_ne (tgt := 10) hx hb dX5_separatorInFor_3 (by decide) (fun c1 => ?_) (fun c1 => ?_)
  · replace hM := if_f c1 hM
    refine lv_iload_n hx hb dX5_separatorInFor_10 rfl (lv_at hl 1 rfl) ?_
    refine lv_iload_n hx hb dX5_separatorInFor_11 rfl (lv_at hl 1 rfl) ?_
    refine lv_iconst (v := 1) hx hb dX5_separatorInFor_12 (by decide) ?_
    refine lv_icmp_ne (tgt := 22) hx hb dX5_separatorInFor_13 (by decide) (fun c2 => ?_) (fun c2 => ?_)
    · replace hM := if_f c2 hM
      refine lv_sipush (v := 281) hx hb dX5_separatorInFor_22 (by decide) ?_
      obtain ⟨r3, hcr3, hM⟩ := ob_use hM
      refine cl_S (As := [.int a2, .int 281]) (rest := []) (([] : va_W)) (.int r3 :: []) ⟨hx, hb, hml, hown, hts⟩ (c_Writer_behindFirst l D cI sd ad a2 281 r3 hcr3) (cwS2 hts q919 mvX5_behindFirst rfl rfl ⟨(Nat.le_of_ble_eq_true rfl), (Nat.le_of_ble_eq_true rfl)⟩) hK hE hA hP hD hS [] rfl (by decide) rfl rfl rfl rfl rfl rfl hl.1 (Nat.le_of_ble_eq_true rfl) dX5_separatorInFor_25 ⟨Nat.zero_le _, Nat.zero_le _⟩ (fun H locs hP hD hS => ?_)
      cases hM
      exact rt_i hx hb hr hlk hP hD hS rfl dX5_separatorInFor_28
    · replace hM := if_t c2 hM
      refine lv_sipush (v := 280) hx hb dX5_separatorInFor_16 (by decide) ?_
      refine lv_goto (tgt := 25) hx hb dX5_separatorInFor_19 (by decide) ?_
      obtain ⟨r4, hcr4, hM⟩ := ob_use hM
      refine cl_S (As := [.int a2, .int 280]) (rest := []) (([] : va_W)) (.int r4 :: []) ⟨hx, hb, hml, hown, hts⟩ (c_Writer_behindFirst l D cI sd ad a2 280 r4 hcr4) (cwS2 hts q919 mvX5_behindFirst rfl rfl ⟨(Nat.le_of_ble_eq_true rfl), (Nat.le_of_ble_eq_true rfl)⟩) hK hE hA hP hD hS [] rfl (by decide) rfl rfl rfl rfl rfl rfl hl.1 (Nat.le_of_ble_eq_true rfl) dX5_separatorInFor_25 ⟨Nat.zero_le _, Nat.zero_le _⟩ (fun H locs hP hD hS => ?_)
      cases hM
      exact rt_i hx hb hr hlk hP hD hS rfl dX5_separatorInFor_28
  · replace hM := if_t c1 hM
    refine lv_sipush (v := 282) hx hb dX5_separatorInFor_6 (by decide) ?_
    cases hM
    exact rt_i hx hb hr hlk hP hD hS rfl dX5_separatorInFor_9

set_option maxHeartbeats 4000000 in
set_option maxRecDepth 100000 in
theorem c_Writer_separatorInIf (l : Launch) (D : va_G) (cI : ClassId) (sd : Nat → Nat) (ad : Nat → Nat) (a1 : Int32) (a2 : Int32) (res : Int32) (hM : f_Writer_separatorInIf a1 a2 = some res) : Ctr l D cI sd yX5_separatorInIf (wsM yX5_separatorInIf cX5_separatorInIf 2 (Option.some Jvm.ClassFile.FieldType.int)) { frames := 1, cells := 0, slots := 0, locals := 21 } [.int a1, .int a2] (([] : va_W)) (([] : va_W)) (some (.int res)) := by
  refine Ctr.of (cc := cX5_separatorInIf) (maxL := 2) (own := RX5) (by decide +kernel) rfl rfl (Nat.le_of_ble_eq_true rfl) ?_
  intro p e s m below meth c A ls hx hb hr hml hown hts hlk hK hE hA hP hD hS hl
  have hl : lv_has ls 2 [(0, .int a1), (1, .int a2)] := hl
  unfold f_Writer_separatorInIf at hM
  refine lv_iload_n hx hb dX5_separatorInIf_0 rfl (lv_at hl 1 rfl) ?_
  refine lv_iconst (v := 2) hx hb dX5_separatorInIf_1 (by decide) ?_
  refine lv_irem hx hb dX5_separatorInIf_2 (by decide) ?_
  refine lv_iconst (v := 1) hx hb dX5_separatorInIf_3 (by decide) ?_
  refine lv_icmp_ne (tgt := 11) hx hb dX5_separatorInIf_4 (by decide) (fun c1 => ?_) (fun c1 => ?_)
  · replace hM := if_f c1 hM
    refine lv_iload_n hx hb dX5_separatorInIf_11 rfl (lv_at hl 1 rfl) ?_
    refine lv_iload_n hx hb dX5_separatorInIf_12 rfl (lv_at hl 0 rfl) ?_
    refine lv_bipush (v := 11) hx hb dX5_separatorInIf_13 (by decide) ?_
    refine lv_icmp_ne (tgt := 24) hx hb dX5_separatorInIf_15 (by decide) (fun c2 => ?_) (fun c2 => ?_)
    · replace hM := if_f c2 hM
      refine lv_sipush (v := 274) hx hb dX5_separatorInIf_24 (by decide) ?_
      obtain ⟨r3, hcr3, hM⟩ := ob_use hM
      refine cl_S (As := [.int a2, .int 274]) (rest := []) (([] : va_W)) (.int r3 :: []) ⟨hx, hb, hml, hown, hts⟩ (c_Writer_behindFirst l D cI sd ad a2 274 r3 hcr3) (cwS2 hts q919 mvX5_behindFirst rfl rfl ⟨(Nat.le_of_ble_eq_true rfl), (Nat.le_of_ble_eq_true rfl)⟩) hK hE hA hP hD hS [] rfl (by decide) rfl rfl rfl rfl rfl rfl hl.1 (Nat.le_of_ble_eq_true rfl) dX5_separatorInIf_27 ⟨Nat.zero_le _, Nat.zero_le _⟩ (fun H locs hP hD hS => ?_)
      cases hM
      exact rt_i hx hb hr hlk hP hD hS rfl dX5_separatorInIf_30
    · replace hM := if_t c2 hM
      refine lv_sipush (v := 275) hx hb dX5_separatorInIf_18 (by decide) ?_
      refine lv_goto (tgt := 27) hx hb dX5_separatorInIf_21 (by decide) ?_
      obtain ⟨r4, hcr4, hM⟩ := ob_use hM
      refine cl_S (As := [.int a2, .int 275]) (rest := []) (([] : va_W)) (.int r4 :: []) ⟨hx, hb, hml, hown, hts⟩ (c_Writer_behindFirst l D cI sd ad a2 275 r4 hcr4) (cwS2 hts q919 mvX5_behindFirst rfl rfl ⟨(Nat.le_of_ble_eq_true rfl), (Nat.le_of_ble_eq_true rfl)⟩) hK hE hA hP hD hS [] rfl (by decide) rfl rfl rfl rfl rfl rfl hl.1 (Nat.le_of_ble_eq_true rfl) dX5_separatorInIf_27 ⟨Nat.zero_le _, Nat.zero_le _⟩ (fun H locs hP hD hS => ?_)
      cases hM
      exact rt_i hx hb hr hlk hP hD hS rfl dX5_separatorInIf_30
  · replace hM := if_t c1 hM
    refine lv_sipush (v := 273) hx hb dX5_separatorInIf_7 (by decide) ?_
    cases hM
    exact rt_i hx hb hr hlk hP hD hS rfl dX5_separatorInIf_10

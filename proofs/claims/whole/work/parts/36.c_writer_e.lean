set_option maxHeartbeats 4000000 in
set_option maxRecDepth 100000 in
theorem c_Writer_begin (l : Launch) (D : va_G) (cI : ClassId) (sd : Nat → Nat) (ad : Nat → Nat) (o_tree : S_Tree) (o_names : S_Names) (o_out : S_Bytes) (a1 : Int32) (res : S_Bytes) (hM : f_Writer_begin o_tree o_names o_out a1 = some res) : Ctr l D cI sd yX5_begin (wsM yX5_begin cX5_begin 4 (Option.none : Option Jvm.ClassFile.FieldType)) { frames := 5, cells := 0, slots := 0, locals := 108 } [.ref (ad 23), .int a1] (w_Writer_this_tree_names_out cI ad o_tree o_names o_out) (w_Writer_this_tree_names_out cI ad o_tree o_names res) none := by
  refine Ctr.of (cc := cX5_begin) (maxL := 4) (own := RX5) (by decide +kernel) rfl rfl (Nat.le_of_ble_eq_true rfl) ?_
  intro p e s m below meth c A ls hx hb hr hml hown hts hlk hK hE hA hP hD hS hl
  have hl : lv_has ls 4 [(0, .ref (ad 23)), (1, .int a1)] := hl
  unfold f_Writer_begin at hM
  refine lv_aload_n hx hb dX5_begin_0 rfl (lv_at hl 0 rfl) ?_
  refine va_get (D := D) (ci := 5) (v := .ref (ad 14)) (C := RX5) (T := TX5) (N := 3) hx hb hts layX5 hown hK hP 0 rfl rfl 0 (by decide) (hts _ (inA q442)) (fun _ h9 => h9) rfl dX5_begin_1 ?_
  refine lv_iload_n hx hb dX5_begin_4 rfl (lv_at hl 1 rfl) ?_
  obtain ⟨r1, hcr1, hM⟩ := ob_use hM
  refine cl_V (As := [.int a1]) (rest := []) (w_Writer_this_tree_names_out cI ad o_tree o_names o_out) (.int r1 :: []) ⟨hx, hb, hml, hown, hts⟩ (c_Tree_kind l D cI sd ad o_tree a1 r1 hcr1) (cwV2 hts q870 mvX3_kind rfl rfl ⟨(Nat.le_of_ble_eq_true rfl), (Nat.le_of_ble_eq_true rfl)⟩) hK hE hA hP hD hS 1 (T := TX3) (N := 8) (ci := 3) rfl rfl [1, 2, 3, 4, 5, 6, 7, 8] rfl (by decide) rfl rfl rfl rfl rfl rfl hl.1 (Nat.le_of_ble_eq_true rfl) dX5_begin_5 ⟨Nat.zero_le _, Nat.zero_le _⟩ (fun H locs hP hD hS => ?_)
  refine lv_istore_n (lv' := [(2, .int r1), (0, .ref (ad 23)), (1, .int a1)]) hx hb dX5_begin_8 rfl hl (by decide) rfl (fun ls hl => ?_)
  refine lv_aload_n hx hb dX5_begin_9 rfl (lv_at hl 1 rfl) ?_
  refine va_get (D := D) (ci := 5) (v := .ref (ad 14)) (C := RX5) (T := TX5) (N := 3) hx hb hts layX5 hown hK hP 0 rfl rfl 0 (by decide) (hts _ (inA q442)) (fun _ h9 => h9) rfl dX5_begin_10 ?_
  refine lv_iload_n hx hb dX5_begin_13 rfl (lv_at hl 2 rfl) ?_
  obtain ⟨r2, hcr2, hM⟩ := ob_use hM
  refine cl_V (As := [.int a1]) (rest := []) (w_Writer_this_tree_names_out cI ad o_tree o_names o_out) (.int r2 :: []) ⟨hx, hb, hml, hown, hts⟩ (c_Tree_value l D cI sd ad o_tree a1 r2 hcr2) (cwV2 hts q892 mvX3_value rfl rfl ⟨(Nat.le_of_ble_eq_true rfl), (Nat.le_of_ble_eq_true rfl)⟩) hK hE hA hP hD hS 1 (T := TX3) (N := 8) (ci := 3) rfl rfl [1, 2, 3, 4, 5, 6, 7, 8] rfl (by decide) rfl rfl rfl rfl rfl rfl hl.1 (Nat.le_of_ble_eq_true rfl) dX5_begin_14 ⟨Nat.zero_le _, Nat.zero_le _⟩ (fun H locs hP hD hS => ?_)
  refine lv_istore_n (lv' := [(3, .int r2), (2, .int r1), (0, .ref (ad 23)), (1, .int a1)]) hx hb dX5_begin_17 rfl hl (by decide) rfl (fun ls hl => ?_)
  refine lv_aload_n hx hb dX5_begin_18 rfl (lv_at hl 2 rfl) ?_
  refine lv_iload_n hx hb dX5_begin_19 rfl (lv_at hl 1 rfl) ?_
  refine lv_iload_n hx hb dX5_begin_20 rfl (lv_at hl 0 rfl) ?_
  obtain ⟨r3, hcr3, hM⟩ := ob_use hM
  refine cl_S (As := [.int r1, .int r2]) (rest := [.ref (ad 23)]) (w_Writer_this_tree_names_out cI ad o_tree o_names o_out) (.int r3 :: [.ref (ad 23)]) ⟨hx, hb, hml, hown, hts⟩ (c_Writer_firstToken l D cI sd ad r1 r2 r3 hcr3) (cwS2 hts q932 mvX5_firstToken rfl rfl ⟨(Nat.le_of_ble_eq_true rfl), (Nat.le_of_ble_eq_true rfl)⟩) hK hE hA hP hD hS [] rfl (by decide) rfl rfl rfl rfl rfl rfl hl.1 (Nat.le_of_ble_eq_true rfl) dX5_begin_21 ⟨Nat.zero_le _, Nat.zero_le _⟩ (fun H locs hP hD hS => ?_)
  obtain ⟨r4, hcr4, hM⟩ := ob_use hM
  refine cl_V (As := [.int r3]) (rest := []) (w_Writer_this_tree_names_out cI ad o_tree o_names r4) [] ⟨hx, hb, hml, hown, hts⟩ (c_Writer_token l D cI sd ad o_names o_out r3 r4 hcr4) (cwV2 hts q872 mvX5_token rfl rfl ⟨(Nat.le_of_ble_eq_true rfl), (Nat.le_of_ble_eq_true rfl)⟩) hK hE hA hP hD hS 0 (T := TX5) (N := 3) (ci := 5) rfl rfl [0, 9, 10, 11, 12, 13, 14, 15] rfl (by decide) rfl rfl rfl rfl rfl rfl hl.1 (Nat.le_of_ble_eq_true rfl) dX5_begin_24 ⟨Nat.zero_le _, Nat.zero_le _⟩ (fun H locs hP hD hS => ?_)
  refine lv_iload_n hx hb dX5_begin_27 rfl (lv_at hl 1 rfl) ?_
  refine lv_bipush (v := 35) hx hb dX5_begin_28 (by decide) ?_
  refine lv_icmp_ne (tgt := 47) hx hb dX5_begin_30 (by decide) (fun c5 => ?_) (fun c5 => ?_)
  · replace hM := if_f c5 hM
    refine lv_iload_n hx hb dX5_begin_47 rfl (lv_at hl 1 rfl) ?_
    obtain ⟨r6, hcr6, hM⟩ := ob_use hM
    refine cl_S (As := [.int r1]) (rest := []) (w_Writer_this_tree_names_out cI ad o_tree o_names r4) (.int r6 :: []) ⟨hx, hb, hml, hown, hts⟩ (c_Writer_bearsName l D cI sd ad r1 r6 hcr6) (cwS2 hts q938 mvX5_bearsName rfl rfl ⟨(Nat.le_of_ble_eq_true rfl), (Nat.le_of_ble_eq_true rfl)⟩) hK hE hA hP hD hS [] rfl (by decide) rfl rfl rfl rfl rfl rfl hl.1 (Nat.le_of_ble_eq_true rfl) dX5_begin_48 ⟨Nat.zero_le _, Nat.zero_le _⟩ (fun H locs hP hD hS => ?_)
    refine lv_if_eq (tgt := 62) hx hb dX5_begin_51 (by decide) (fun c7 => ?_) (fun c7 => ?_)
    · replace hM := if_t c7 hM
      refine lv_iload_n hx hb dX5_begin_62 rfl (lv_at hl 1 rfl) ?_
      refine lv_bipush (v := 30) hx hb dX5_begin_63 (by decide) ?_
      refine lv_icmp_ne (tgt := 73) hx hb dX5_begin_65 (by decide) (fun c8 => ?_) (fun c8 => ?_)
      · replace hM := if_f c8 hM
        refine lv_iload_n hx hb dX5_begin_73 rfl (lv_at hl 1 rfl) ?_
        refine lv_bipush (v := 7) hx hb dX5_begin_74 (by decide) ?_
        refine lv_icmp_ne (tgt := 84) hx hb dX5_begin_76 (by decide) (fun c9 => ?_) (fun c9 => ?_)
        · replace hM := if_f c9 hM
          refine lv_aload_n hx hb dX5_begin_84 rfl (lv_at hl 2 rfl) ?_
          refine lv_iload_n hx hb dX5_begin_85 rfl (lv_at hl 1 rfl) ?_
          refine lv_iload_n hx hb dX5_begin_86 rfl (lv_at hl 0 rfl) ?_
          obtain ⟨r10, hcr10, hM⟩ := ob_use hM
          refine cl_S (As := [.int r1, .int r2]) (rest := [.ref (ad 23)]) (w_Writer_this_tree_names_out cI ad o_tree o_names r4) (.int r10 :: [.ref (ad 23)]) ⟨hx, hb, hml, hown, hts⟩ (c_Writer_nextToken l D cI sd ad r1 r2 r10 hcr10) (cwS2 hts q957 mvX5_nextToken rfl rfl ⟨(Nat.le_of_ble_eq_true rfl), (Nat.le_of_ble_eq_true rfl)⟩) hK hE hA hP hD hS [] rfl (by decide) rfl rfl rfl rfl rfl rfl hl.1 (Nat.le_of_ble_eq_true rfl) dX5_begin_87 ⟨Nat.zero_le _, Nat.zero_le _⟩ (fun H locs hP hD hS => ?_)
          obtain ⟨r11, hcr11, hM⟩ := ob_use hM
          refine cl_V (As := [.int r10]) (rest := []) (w_Writer_this_tree_names_out cI ad o_tree o_names r11) [] ⟨hx, hb, hml, hown, hts⟩ (c_Writer_token l D cI sd ad o_names r4 r10 r11 hcr11) (cwV2 hts q872 mvX5_token rfl rfl ⟨(Nat.le_of_ble_eq_true rfl), (Nat.le_of_ble_eq_true rfl)⟩) hK hE hA hP hD hS 0 (T := TX5) (N := 3) (ci := 5) rfl rfl [0, 9, 10, 11, 12, 13, 14, 15] rfl (by decide) rfl rfl rfl rfl rfl rfl hl.1 (Nat.le_of_ble_eq_true rfl) dX5_begin_90 ⟨Nat.zero_le _, Nat.zero_le _⟩ (fun H locs hP hD hS => ?_)
          cases hM
          exact rt_v hx hb hr hlk hP hD hS rfl dX5_begin_93
        · replace hM := if_t c9 hM
          refine lv_aload_n hx hb dX5_begin_79 rfl (lv_at hl 2 rfl) ?_
          refine lv_iload_n hx hb dX5_begin_80 rfl (lv_at hl 0 rfl) ?_
          obtain ⟨r12, hcr12, hM⟩ := ob_use hM
          refine cl_V (As := [.int r2]) (rest := []) (w_Writer_this_tree_names_out cI ad o_tree o_names r12) [] ⟨hx, hb, hml, hown, hts⟩ (c_Writer_place l D cI sd ad o_names r4 r2 r12 hcr12) (cwV2 hts q953 mvX5_place rfl rfl ⟨(Nat.le_of_ble_eq_true rfl), (Nat.le_of_ble_eq_true rfl)⟩) hK hE hA hP hD hS 0 (T := TX5) (N := 3) (ci := 5) rfl rfl [0, 9, 10, 11, 12, 13, 14, 15] rfl (by decide) rfl rfl rfl rfl rfl rfl hl.1 (Nat.le_of_ble_eq_true rfl) dX5_begin_81 ⟨Nat.zero_le _, Nat.zero_le _⟩ (fun H locs hP hD hS => ?_)
          refine lv_aload_n hx hb dX5_begin_84 rfl (lv_at hl 2 rfl) ?_
          refine lv_iload_n hx hb dX5_begin_85 rfl (lv_at hl 1 rfl) ?_
          refine lv_iload_n hx hb dX5_begin_86 rfl (lv_at hl 0 rfl) ?_
          obtain ⟨r13, hcr13, hM⟩ := ob_use hM
          refine cl_S (As := [.int r1, .int r2]) (rest := [.ref (ad 23)]) (w_Writer_this_tree_names_out cI ad o_tree o_names r12) (.int r13 :: [.ref (ad 23)]) ⟨hx, hb, hml, hown, hts⟩ (c_Writer_nextToken l D cI sd ad r1 r2 r13 hcr13) (cwS2 hts q957 mvX5_nextToken rfl rfl ⟨(Nat.le_of_ble_eq_true rfl), (Nat.le_of_ble_eq_true rfl)⟩) hK hE hA hP hD hS [] rfl (by decide) rfl rfl rfl rfl rfl rfl hl.1 (Nat.le_of_ble_eq_true rfl) dX5_begin_87 ⟨Nat.zero_le _, Nat.zero_le _⟩ (fun H locs hP hD hS => ?_)
          obtain ⟨r14, hcr14, hM⟩ := ob_use hM
          refine cl_V (As := [.int r13]) (rest := []) (w_Writer_this_tree_names_out cI ad o_tree o_names r14) [] ⟨hx, hb, hml, hown, hts⟩ (c_Writer_token l D cI sd ad o_names r12 r13 r14 hcr14) (cwV2 hts q872 mvX5_token rfl rfl ⟨(Nat.le_of_ble_eq_true rfl), (Nat.le_of_ble_eq_true rfl)⟩) hK hE hA hP hD hS 0 (T := TX5) (N := 3) (ci := 5) rfl rfl [0, 9, 10, 11, 12, 13, 14, 15] rfl (by decide) rfl rfl rfl rfl rfl rfl hl.1 (Nat.le_of_ble_eq_true rfl) dX5_begin_90 ⟨Nat.zero_le _, Nat.zero_le _⟩ (fun H locs hP hD hS => ?_)
          cases hM
          exact rt_v hx hb hr hlk hP hD hS rfl dX5_begin_93
      · replace hM := if_t c8 hM
        refine lv_aload_n hx hb dX5_begin_68 rfl (lv_at hl 2 rfl) ?_
        refine lv_iload_n hx hb dX5_begin_69 rfl (lv_at hl 0 rfl) ?_
        obtain ⟨r15, hcr15, hM⟩ := ob_use hM
        refine cl_V (As := [.int r2]) (rest := []) (w_Writer_this_tree_names_out cI ad o_tree o_names r15) [] ⟨hx, hb, hml, hown, hts⟩ (c_Writer_number l D cI sd ad o_names r4 r2 r15 hcr15) (cwV2 hts q941 mvX5_number rfl rfl ⟨(Nat.le_of_ble_eq_true rfl), (Nat.le_of_ble_eq_true rfl)⟩) hK hE hA hP hD hS 0 (T := TX5) (N := 3) (ci := 5) rfl rfl [0, 9, 10, 11, 12, 13, 14, 15] rfl (by decide) rfl rfl rfl rfl rfl rfl hl.1 (Nat.le_of_ble_eq_true rfl) dX5_begin_70 ⟨Nat.zero_le _, Nat.zero_le _⟩ (fun H locs hP hD hS => ?_)
        refine lv_iload_n hx hb dX5_begin_73 rfl (lv_at hl 1 rfl) ?_
        refine lv_bipush (v := 7) hx hb dX5_begin_74 (by decide) ?_
        refine lv_icmp_ne (tgt := 84) hx hb dX5_begin_76 (by decide) (fun c16 => ?_) (fun c16 => ?_)
        · replace hM := if_f c16 hM
          refine lv_aload_n hx hb dX5_begin_84 rfl (lv_at hl 2 rfl) ?_
          refine lv_iload_n hx hb dX5_begin_85 rfl (lv_at hl 1 rfl) ?_
          refine lv_iload_n hx hb dX5_begin_86 rfl (lv_at hl 0 rfl) ?_
          obtain ⟨r17, hcr17, hM⟩ := ob_use hM
          refine cl_S (As := [.int r1, .int r2]) (rest := [.ref (ad 23)]) (w_Writer_this_tree_names_out cI ad o_tree o_names r15) (.int r17 :: [.ref (ad 23)]) ⟨hx, hb, hml, hown, hts⟩ (c_Writer_nextToken l D cI sd ad r1 r2 r17 hcr17) (cwS2 hts q957 mvX5_nextToken rfl rfl ⟨(Nat.le_of_ble_eq_true rfl), (Nat.le_of_ble_eq_true rfl)⟩) hK hE hA hP hD hS [] rfl (by decide) rfl rfl rfl rfl rfl rfl hl.1 (Nat.le_of_ble_eq_true rfl) dX5_begin_87 ⟨Nat.zero_le _, Nat.zero_le _⟩ (fun H locs hP hD hS => ?_)
          obtain ⟨r18, hcr18, hM⟩ := ob_use hM
          refine cl_V (As := [.int r17]) (rest := []) (w_Writer_this_tree_names_out cI ad o_tree o_names r18) [] ⟨hx, hb, hml, hown, hts⟩ (c_Writer_token l D cI sd ad o_names r15 r17 r18 hcr18) (cwV2 hts q872 mvX5_token rfl rfl ⟨(Nat.le_of_ble_eq_true rfl), (Nat.le_of_ble_eq_true rfl)⟩) hK hE hA hP hD hS 0 (T := TX5) (N := 3) (ci := 5) rfl rfl [0, 9, 10, 11, 12, 13, 14, 15] rfl (by decide) rfl rfl rfl rfl rfl rfl hl.1 (Nat.le_of_ble_eq_true rfl) dX5_begin_90 ⟨Nat.zero_le _, Nat.zero_le _⟩ (fun H locs hP hD hS => ?_)
          cases hM
          exact rt_v hx hb hr hlk hP hD hS rfl dX5_begin_93
        · replace hM := if_t c16 hM
          refine lv_aload_n hx hb dX5_begin_79 rfl (lv_at hl 2 rfl) ?_
          refine lv_iload_n hx hb dX5_begin_80 rfl (lv_at hl 0 rfl) ?_
          obtain ⟨r19, hcr19, hM⟩ := ob_use hM
          refine cl_V (As := [.int r2]) (rest := []) (w_Writer_this_tree_names_out cI ad o_tree o_names r19) [] ⟨hx, hb, hml, hown, hts⟩ (c_Writer_place l D cI sd ad o_names r15 r2 r19 hcr19) (cwV2 hts q953 mvX5_place rfl rfl ⟨(Nat.le_of_ble_eq_true rfl), (Nat.le_of_ble_eq_true rfl)⟩) hK hE hA hP hD hS 0 (T := TX5) (N := 3) (ci := 5) rfl rfl [0, 9, 10, 11, 12, 13, 14, 15] rfl (by decide) rfl rfl rfl rfl rfl rfl hl.1 (Nat.le_of_ble_eq_true rfl) dX5_begin_81 ⟨Nat.zero_le _, Nat.zero_le _⟩ (fun H locs hP hD hS => ?_)
          refine lv_aload_n hx hb dX5_begin_84 rfl (lv_at hl 2 rfl) ?_
          refine lv_iload_n hx hb dX5_begin_85 rfl (lv_at hl 1 rfl) ?_
          refine lv_iload_n hx hb dX5_begin_86 rfl (lv_at hl 0 rfl) ?_
          obtain ⟨r20, hcr20, hM⟩ := ob_use hM
          refine cl_S (As := [.int r1, .int r2]) (rest := [.ref (ad 23)]) (w_Writer_this_tree_names_out cI ad o_tree o_names r19) (.int r20 :: [.ref (ad 23)]) ⟨hx, hb, hml, hown, hts⟩ (c_Writer_nextToken l D cI sd ad r1 r2 r20 hcr20) (cwS2 hts q957 mvX5_nextToken rfl rfl ⟨(Nat.le_of_ble_eq_true rfl), (Nat.le_of_ble_eq_true rfl)⟩) hK hE hA hP hD hS [] rfl (by decide) rfl rfl rfl rfl rfl rfl hl.1 (Nat.le_of_ble_eq_true rfl) dX5_begin_87 ⟨Nat.zero_le _, Nat.zero_le _⟩ (fun H locs hP hD hS => ?_)
          obtain ⟨r21, hcr21, hM⟩ := ob_use hM
          refine cl_V (As := [.int r20]) (rest := []) (w_Writer_this_tree_names_out cI ad o_tree o_names r21) [] ⟨hx, hb, hml, hown, hts⟩ (c_Writer_token l D cI sd ad o_names r19 r20 r21 hcr21) (cwV2 hts q872 mvX5_token rfl rfl ⟨(Nat.le_of_ble_eq_true rfl), (Nat.le_of_ble_eq_true rfl)⟩) hK hE hA hP hD hS 0 (T := TX5) (N := 3) (ci := 5) rfl rfl [0, 9, 10, 11, 12, 13, 14, 15] rfl (by decide) rfl rfl rfl rfl rfl rfl hl.1 (Nat.le_of_ble_eq_true rfl) dX5_begin_90 ⟨Nat.zero_le _, Nat.zero_le _⟩ (fun H locs hP hD hS => ?_)
          cases hM
          exact rt_v hx hb hr hlk hP hD hS rfl dX5_begin_93
    · replace hM := if_f c7 hM
      refine lv_aload_n hx hb dX5_begin_54 rfl (lv_at hl 2 rfl) ?_
      refine lv_bipush (v := 41) hx hb dX5_begin_55 (by decide) ?_
      refine lv_iload_n hx hb dX5_begin_57 rfl (lv_at hl 0 rfl) ?_
      refine lv_iadd hx hb dX5_begin_58 ?_
      obtain ⟨r22, hcr22, hM⟩ := ob_use hM
      refine cl_V (As := [.int (41 + r2)]) (rest := []) (w_Writer_this_tree_names_out cI ad o_tree o_names r22) [] ⟨hx, hb, hml, hown, hts⟩ (c_Writer_word l D cI sd ad o_names r4 (41 + r2) r22 hcr22) (cwV2 hts q876 mvX5_word rfl rfl ⟨(Nat.le_of_ble_eq_true rfl), (Nat.le_of_ble_eq_true rfl)⟩) hK hE hA hP hD hS 0 (T := TX5) (N := 3) (ci := 5) rfl rfl [0, 9, 10, 11, 12, 13, 14, 15] rfl (by decide) rfl rfl rfl rfl rfl rfl hl.1 (Nat.le_of_ble_eq_true rfl) dX5_begin_59 ⟨Nat.zero_le _, Nat.zero_le _⟩ (fun H locs hP hD hS => ?_)
      refine lv_iload_n hx hb dX5_begin_62 rfl (lv_at hl 1 rfl) ?_
      refine lv_bipush (v := 30) hx hb dX5_begin_63 (by decide) ?_
      refine lv_icmp_ne (tgt := 73) hx hb dX5_begin_65 (by decide) (fun c23 => ?_) (fun c23 => ?_)
      · replace hM := if_f c23 hM
        refine lv_iload_n hx hb dX5_begin_73 rfl (lv_at hl 1 rfl) ?_
        refine lv_bipush (v := 7) hx hb dX5_begin_74 (by decide) ?_
        refine lv_icmp_ne (tgt := 84) hx hb dX5_begin_76 (by decide) (fun c24 => ?_) (fun c24 => ?_)
        · replace hM := if_f c24 hM
          refine lv_aload_n hx hb dX5_begin_84 rfl (lv_at hl 2 rfl) ?_
          refine lv_iload_n hx hb dX5_begin_85 rfl (lv_at hl 1 rfl) ?_
          refine lv_iload_n hx hb dX5_begin_86 rfl (lv_at hl 0 rfl) ?_
          obtain ⟨r25, hcr25, hM⟩ := ob_use hM
          refine cl_S (As := [.int r1, .int r2]) (rest := [.ref (ad 23)]) (w_Writer_this_tree_names_out cI ad o_tree o_names r22) (.int r25 :: [.ref (ad 23)]) ⟨hx, hb, hml, hown, hts⟩ (c_Writer_nextToken l D cI sd ad r1 r2 r25 hcr25) (cwS2 hts q957 mvX5_nextToken rfl rfl ⟨(Nat.le_of_ble_eq_true rfl), (Nat.le_of_ble_eq_true rfl)⟩) hK hE hA hP hD hS [] rfl (by decide) rfl rfl rfl rfl rfl rfl hl.1 (Nat.le_of_ble_eq_true rfl) dX5_begin_87 ⟨Nat.zero_le _, Nat.zero_le _⟩ (fun H locs hP hD hS => ?_)
          obtain ⟨r26, hcr26, hM⟩ := ob_use hM
          refine cl_V (As := [.int r25]) (rest := []) (w_Writer_this_tree_names_out cI ad o_tree o_names r26) [] ⟨hx, hb, hml, hown, hts⟩ (c_Writer_token l D cI sd ad o_names r22 r25 r26 hcr26) (cwV2 hts q872 mvX5_token rfl rfl ⟨(Nat.le_of_ble_eq_true rfl), (Nat.le_of_ble_eq_true rfl)⟩) hK hE hA hP hD hS 0 (T := TX5) (N := 3) (ci := 5) rfl rfl [0, 9, 10, 11, 12, 13, 14, 15] rfl (by decide) rfl rfl rfl rfl rfl rfl hl.1 (Nat.le_of_ble_eq_true rfl) dX5_begin_90 ⟨Nat.zero_le _, Nat.zero_le _⟩ (fun H locs hP hD hS => ?_)
          cases hM
          exact rt_v hx hb hr hlk hP hD hS rfl dX5_begin_93
        · replace hM := if_t c24 hM
          refine lv_aload_n hx hb dX5_begin_79 rfl (lv_at hl 2 rfl) ?_
          refine lv_iload_n hx hb dX5_begin_80 rfl (lv_at hl 0 rfl) ?_
          obtain ⟨r27, hcr27, hM⟩ := ob_use hM
          refine cl_V (As := [.int r2]) (rest := []) (w_Writer_this_tree_names_out cI ad o_tree o_names r27) [] ⟨hx, hb, hml, hown, hts⟩ (c_Writer_place l D cI sd ad o_names r22 r2 r27 hcr27) (cwV2 hts q953 mvX5_place rfl rfl ⟨(Nat.le_of_ble_eq_true rfl), (Nat.le_of_ble_eq_true rfl)⟩) hK hE hA hP hD hS 0 (T := TX5) (N := 3) (ci := 5) rfl rfl [0, 9, 10, 11, 12, 13, 14, 15] rfl (by decide) rfl rfl rfl rfl rfl rfl hl.1 (Nat.le_of_ble_eq_true rfl) dX5_begin_81 ⟨Nat.zero_le _, Nat.zero_le _⟩ (fun H locs hP hD hS => ?_)
          refine lv_aload_n hx hb dX5_begin_84 rfl (lv_at hl 2 rfl) ?_
          refine lv_iload_n hx hb dX5_begin_85 rfl (lv_at hl 1 rfl) ?_
          refine lv_iload_n hx hb dX5_begin_86 rfl (lv_at hl 0 rfl) ?_
          obtain ⟨r28, hcr28, hM⟩ := ob_use hM
          refine cl_S (As := [.int r1, .int r2]) (rest := [.ref (ad 23)]) (w_Writer_this_tree_names_out cI ad o_tree o_names r27) (.int r28 :: [.ref (ad 23)]) ⟨hx, hb, hml, hown, hts⟩ (c_Writer_nextToken l D cI sd ad r1 r2 r28 hcr28) (cwS2 hts q957 mvX5_nextToken rfl rfl ⟨(Nat.le_of_ble_eq_true rfl), (Nat.le_of_ble_eq_true rfl)⟩) hK hE hA hP hD hS [] rfl (by decide) rfl rfl rfl rfl rfl rfl hl.1 (Nat.le_of_ble_eq_true rfl) dX5_begin_87 ⟨Nat.zero_le _, Nat.zero_le _⟩ (fun H locs hP hD hS => ?_)
          obtain ⟨r29, hcr29, hM⟩ := ob_use hM
          refine cl_V (As := [.int r28]) (rest := []) (w_Writer_this_tree_names_out cI ad o_tree o_names r29) [] ⟨hx, hb, hml, hown, hts⟩ (c_Writer_token l D cI sd ad o_names r27 r28 r29 hcr29) (cwV2 hts q872 mvX5_token rfl rfl ⟨(Nat.le_of_ble_eq_true rfl), (Nat.le_of_ble_eq_true rfl)⟩) hK hE hA hP hD hS 0 (T := TX5) (N := 3) (ci := 5) rfl rfl [0, 9, 10, 11, 12, 13, 14, 15] rfl (by decide) rfl rfl rfl rfl rfl rfl hl.1 (Nat.le_of_ble_eq_true rfl) dX5_begin_90 ⟨Nat.zero_le _, Nat.zero_le _⟩ (fun H locs hP hD hS => ?_)
          cases hM
          exact rt_v hx hb hr hlk hP hD hS rfl dX5_begin_93
      · replace hM := if_t c23 hM
        refine lv_aload_n hx hb dX5_begin_68 rfl (lv_at hl 2 rfl) ?_
        refine lv_iload_n hx hb dX5_begin_69 rfl (lv_at hl 0 rfl) ?_
        obtain ⟨r30, hcr30, hM⟩ := ob_use hM
        refine cl_V (As := [.int r2]) (rest := []) (w_Writer_this_tree_names_out cI ad o_tree o_names r30) [] ⟨hx, hb, hml, hown, hts⟩ (c_Writer_number l D cI sd ad o_names r22 r2 r30 hcr30) (cwV2 hts q941 mvX5_number rfl rfl ⟨(Nat.le_of_ble_eq_true rfl), (Nat.le_of_ble_eq_true rfl)⟩) hK hE hA hP hD hS 0 (T := TX5) (N := 3) (ci := 5) rfl rfl [0, 9, 10, 11, 12, 13, 14, 15] rfl (by decide) rfl rfl rfl rfl rfl rfl hl.1 (Nat.le_of_ble_eq_true rfl) dX5_begin_70 ⟨Nat.zero_le _, Nat.zero_le _⟩ (fun H locs hP hD hS => ?_)
        refine lv_iload_n hx hb dX5_begin_73 rfl (lv_at hl 1 rfl) ?_
        refine lv_bipush (v := 7) hx hb dX5_begin_74 (by decide) ?_
        refine lv_icmp_ne (tgt := 84) hx hb dX5_begin_76 (by decide) (fun c31 => ?_) (fun c31 => ?_)
        · replace hM := if_f c31 hM
          refine lv_aload_n hx hb dX5_begin_84 rfl (lv_at hl 2 rfl) ?_
          refine lv_iload_n hx hb dX5_begin_85 rfl (lv_at hl 1 rfl) ?_
          refine lv_iload_n hx hb dX5_begin_86 rfl (lv_at hl 0 rfl) ?_
          obtain ⟨r32, hcr32, hM⟩ := ob_use hM
          refine cl_S (As := [.int r1, .int r2]) (rest := [.ref (ad 23)]) (w_Writer_this_tree_names_out cI ad o_tree o_names r30) (.int r32 :: [.ref (ad 23)]) ⟨hx, hb, hml, hown, hts⟩ (c_Writer_nextToken l D cI sd ad r1 r2 r32 hcr32) (cwS2 hts q957 mvX5_nextToken rfl rfl ⟨(Nat.le_of_ble_eq_true rfl), (Nat.le_of_ble_eq_true rfl)⟩) hK hE hA hP hD hS [] rfl (by decide) rfl rfl rfl rfl rfl rfl hl.1 (Nat.le_of_ble_eq_true rfl) dX5_begin_87 ⟨Nat.zero_le _, Nat.zero_le _⟩ (fun H locs hP hD hS => ?_)
          obtain ⟨r33, hcr33, hM⟩ := ob_use hM
          refine cl_V (As := [.int r32]) (rest := []) (w_Writer_this_tree_names_out cI ad o_tree o_names r33) [] ⟨hx, hb, hml, hown, hts⟩ (c_Writer_token l D cI sd ad o_names r30 r32 r33 hcr33) (cwV2 hts q872 mvX5_token rfl rfl ⟨(Nat.le_of_ble_eq_true rfl), (Nat.le_of_ble_eq_true rfl)⟩) hK hE hA hP hD hS 0 (T := TX5) (N := 3) (ci := 5) rfl rfl [0, 9, 10, 11, 12, 13, 14, 15] rfl (by decide) rfl rfl rfl rfl rfl rfl hl.1 (Nat.le_of_ble_eq_true rfl) dX5_begin_90 ⟨Nat.zero_le _, Nat.zero_le _⟩ (fun H locs hP hD hS => ?_)
          cases hM
          exact rt_v hx hb hr hlk hP hD hS rfl dX5_begin_93
        · replace hM := if_t c31 hM
          refine lv_aload_n hx hb dX5_begin_79 rfl (lv_at hl 2 rfl) ?_
          refine lv_iload_n hx hb dX5_begin_80 rfl (lv_at hl 0 rfl) ?_
          obtain ⟨r34, hcr34, hM⟩ := ob_use hM
          refine cl_V (As := [.int r2]) (rest := []) (w_Writer_this_tree_names_out cI ad o_tree o_names r34) [] ⟨hx, hb, hml, hown, hts⟩ (c_Writer_place l D cI sd ad o_names r30 r2 r34 hcr34) (cwV2 hts q953 mvX5_place rfl rfl ⟨(Nat.le_of_ble_eq_true rfl), (Nat.le_of_ble_eq_true rfl)⟩) hK hE hA hP hD hS 0 (T := TX5) (N := 3) (ci := 5) rfl rfl [0, 9, 10, 11, 12, 13, 14, 15] rfl (by decide) rfl rfl rfl rfl rfl rfl hl.1 (Nat.le_of_ble_eq_true rfl) dX5_begin_81 ⟨Nat.zero_le _, Nat.zero_le _⟩ (fun H locs hP hD hS => ?_)
          refine lv_aload_n hx hb dX5_begin_84 rfl (lv_at hl 2 rfl) ?_
          refine lv_iload_n hx hb dX5_begin_85 rfl (lv_at hl 1 rfl) ?_
          refine lv_iload_n hx hb dX5_begin_86 rfl (lv_at hl 0 rfl) ?_
          obtain ⟨r35, hcr35, hM⟩ := ob_use hM
          refine cl_S (As := [.int r1, .int r2]) (rest := [.ref (ad 23)]) (w_Writer_this_tree_names_out cI ad o_tree o_names r34) (.int r35 :: [.ref (ad 23)]) ⟨hx, hb, hml, hown, hts⟩ (c_Writer_nextToken l D cI sd ad r1 r2 r35 hcr35) (cwS2 hts q957 mvX5_nextToken rfl rfl ⟨(Nat.le_of_ble_eq_true rfl), (Nat.le_of_ble_eq_true rfl)⟩) hK hE hA hP hD hS [] rfl (by decide) rfl rfl rfl rfl rfl rfl hl.1 (Nat.le_of_ble_eq_true rfl) dX5_begin_87 ⟨Nat.zero_le _, Nat.zero_le _⟩ (fun H locs hP hD hS => ?_)
          obtain ⟨r36, hcr36, hM⟩ := ob_use hM
          refine cl_V (As := [.int r35]) (rest := []) (w_Writer_this_tree_names_out cI ad o_tree o_names r36) [] ⟨hx, hb, hml, hown, hts⟩ (c_Writer_token l D cI sd ad o_names r34 r35 r36 hcr36) (cwV2 hts q872 mvX5_token rfl rfl ⟨(Nat.le_of_ble_eq_true rfl), (Nat.le_of_ble_eq_true rfl)⟩) hK hE hA hP hD hS 0 (T := TX5) (N := 3) (ci := 5) rfl rfl [0, 9, 10, 11, 12, 13, 14, 15] rfl (by decide) rfl rfl rfl rfl rfl rfl hl.1 (Nat.le_of_ble_eq_true rfl) dX5_begin_90 ⟨Nat.zero_le _, Nat.zero_le _⟩ (fun H locs hP hD hS => ?_)
          cases hM
          exact rt_v hx hb hr hlk hP hD hS rfl dX5_begin_93
  · replace hM := if_t c5 hM
    refine lv_aload_n hx hb dX5_begin_33 rfl (lv_at hl 2 rfl) ?_
    refine lv_iload_n hx hb dX5_begin_34 rfl (lv_at hl 3 rfl) ?_
    obtain ⟨r37, hcr37, hM⟩ := ob_use hM
    refine cl_V (As := [.int a1]) (rest := []) (w_Writer_this_tree_names_out cI ad o_tree o_names r4) (.int r37 :: []) ⟨hx, hb, hml, hown, hts⟩ (c_Writer_isBracketed l D cI sd ad o_tree a1 r37 hcr37) (cwV2 hts q888 mvX5_isBracketed rfl rfl ⟨(Nat.le_of_ble_eq_true rfl), (Nat.le_of_ble_eq_true rfl)⟩) hK hE hA hP hD hS 0 (T := TX5) (N := 3) (ci := 5) rfl rfl [0, 1, 2, 3, 4, 5, 6, 7, 8] rfl (by decide) rfl rfl rfl rfl rfl rfl hl.1 (Nat.le_of_ble_eq_true rfl) dX5_begin_35 ⟨Nat.zero_le _, Nat.zero_le _⟩ (fun H locs hP hD hS => ?_)
    refine lv_if_eq (tgt := 47) hx hb dX5_begin_38 (by decide) (fun c38 => ?_) (fun c38 => ?_)
    · replace hM := if_t c38 hM
      refine lv_iload_n hx hb dX5_begin_47 rfl (lv_at hl 1 rfl) ?_
      obtain ⟨r39, hcr39, hM⟩ := ob_use hM
      refine cl_S (As := [.int r1]) (rest := []) (w_Writer_this_tree_names_out cI ad o_tree o_names r4) (.int r39 :: []) ⟨hx, hb, hml, hown, hts⟩ (c_Writer_bearsName l D cI sd ad r1 r39 hcr39) (cwS2 hts q938 mvX5_bearsName rfl rfl ⟨(Nat.le_of_ble_eq_true rfl), (Nat.le_of_ble_eq_true rfl)⟩) hK hE hA hP hD hS [] rfl (by decide) rfl rfl rfl rfl rfl rfl hl.1 (Nat.le_of_ble_eq_true rfl) dX5_begin_48 ⟨Nat.zero_le _, Nat.zero_le _⟩ (fun H locs hP hD hS => ?_)
      refine lv_if_eq (tgt := 62) hx hb dX5_begin_51 (by decide) (fun c40 => ?_) (fun c40 => ?_)
      · replace hM := if_t c40 hM
        refine lv_iload_n hx hb dX5_begin_62 rfl (lv_at hl 1 rfl) ?_
        refine lv_bipush (v := 30) hx hb dX5_begin_63 (by decide) ?_
        refine lv_icmp_ne (tgt := 73) hx hb dX5_begin_65 (by decide) (fun c41 => ?_) (fun c41 => ?_)
        · replace hM := if_f c41 hM
          refine lv_iload_n hx hb dX5_begin_73 rfl (lv_at hl 1 rfl) ?_
          refine lv_bipush (v := 7) hx hb dX5_begin_74 (by decide) ?_
          refine lv_icmp_ne (tgt := 84) hx hb dX5_begin_76 (by decide) (fun c42 => ?_) (fun c42 => ?_)
          · replace hM := if_f c42 hM
            refine lv_aload_n hx hb dX5_begin_84 rfl (lv_at hl 2 rfl) ?_
            refine lv_iload_n hx hb dX5_begin_85 rfl (lv_at hl 1 rfl) ?_
            refine lv_iload_n hx hb dX5_begin_86 rfl (lv_at hl 0 rfl) ?_
            obtain ⟨r43, hcr43, hM⟩ := ob_use hM
            refine cl_S (As := [.int r1, .int r2]) (rest := [.ref (ad 23)]) (w_Writer_this_tree_names_out cI ad o_tree o_names r4) (.int r43 :: [.ref (ad 23)]) ⟨hx, hb, hml, hown, hts⟩ (c_Writer_nextToken l D cI sd ad r1 r2 r43 hcr43) (cwS2 hts q957 mvX5_nextToken rfl rfl ⟨(Nat.le_of_ble_eq_true rfl), (Nat.le_of_ble_eq_true rfl)⟩) hK hE hA hP hD hS [] rfl (by decide) rfl rfl rfl rfl rfl rfl hl.1 (Nat.le_of_ble_eq_true rfl) dX5_begin_87 ⟨Nat.zero_le _, Nat.zero_le _⟩ (fun H locs hP hD hS => ?_)
            obtain ⟨r44, hcr44, hM⟩ := ob_use hM
            refine cl_V (As := [.int r43]) (rest := []) (w_Writer_this_tree_names_out cI ad o_tree o_names r44) [] ⟨hx, hb, hml, hown, hts⟩ (c_Writer_token l D cI sd ad o_names r4 r43 r44 hcr44) (cwV2 hts q872 mvX5_token rfl rfl ⟨(Nat.le_of_ble_eq_true rfl), (Nat.le_of_ble_eq_true rfl)⟩) hK hE hA hP hD hS 0 (T := TX5) (N := 3) (ci := 5) rfl rfl [0, 9, 10, 11, 12, 13, 14, 15] rfl (by decide) rfl rfl rfl rfl rfl rfl hl.1 (Nat.le_of_ble_eq_true rfl) dX5_begin_90 ⟨Nat.zero_le _, Nat.zero_le _⟩ (fun H locs hP hD hS => ?_)
            cases hM
            exact rt_v hx hb hr hlk hP hD hS rfl dX5_begin_93
          · replace hM := if_t c42 hM
            refine lv_aload_n hx hb dX5_begin_79 rfl (lv_at hl 2 rfl) ?_
            refine lv_iload_n hx hb dX5_begin_80 rfl (lv_at hl 0 rfl) ?_
            obtain ⟨r45, hcr45, hM⟩ := ob_use hM
            refine cl_V (As := [.int r2]) (rest := []) (w_Writer_this_tree_names_out cI ad o_tree o_names r45) [] ⟨hx, hb, hml, hown, hts⟩ (c_Writer_place l D cI sd ad o_names r4 r2 r45 hcr45) (cwV2 hts q953 mvX5_place rfl rfl ⟨(Nat.le_of_ble_eq_true rfl), (Nat.le_of_ble_eq_true rfl)⟩) hK hE hA hP hD hS 0 (T := TX5) (N := 3) (ci := 5) rfl rfl [0, 9, 10, 11, 12, 13, 14, 15] rfl (by decide) rfl rfl rfl rfl rfl rfl hl.1 (Nat.le_of_ble_eq_true rfl) dX5_begin_81 ⟨Nat.zero_le _, Nat.zero_le _⟩ (fun H locs hP hD hS => ?_)
            refine lv_aload_n hx hb dX5_begin_84 rfl (lv_at hl 2 rfl) ?_
            refine lv_iload_n hx hb dX5_begin_85 rfl (lv_at hl 1 rfl) ?_
            refine lv_iload_n hx hb dX5_begin_86 rfl (lv_at hl 0 rfl) ?_
            obtain ⟨r46, hcr46, hM⟩ := ob_use hM
            refine cl_S (As := [.int r1, .int r2]) (rest := [.ref (ad 23)]) (w_Writer_this_tree_names_out cI ad o_tree o_names r45) (.int r46 :: [.ref (ad 23)]) ⟨hx, hb, hml, hown, hts⟩ (c_Writer_nextToken l D cI sd ad r1 r2 r46 hcr46) (cwS2 hts q957 mvX5_nextToken rfl rfl ⟨(Nat.le_of_ble_eq_true rfl), (Nat.le_of_ble_eq_true rfl)⟩) hK hE hA hP hD hS [] rfl (by decide) rfl rfl rfl rfl rfl rfl hl.1 (Nat.le_of_ble_eq_true rfl) dX5_begin_87 ⟨Nat.zero_le _, Nat.zero_le _⟩ (fun H locs hP hD hS => ?_)
            obtain ⟨r47, hcr47, hM⟩ := ob_use hM
            refine cl_V (As := [.int r46]) (rest := []) (w_Writer_this_tree_names_out cI ad o_tree o_names r47) [] ⟨hx, hb, hml, hown, hts⟩ (c_Writer_token l D cI sd ad o_names r45 r46 r47 hcr47) (cwV2 hts q872 mvX5_token rfl rfl ⟨(Nat.le_of_ble_eq_true rfl), (Nat.le_of_ble_eq_true rfl)⟩) hK hE hA hP hD hS 0 (T := TX5) (N := 3) (ci := 5) rfl rfl [0, 9, 10, 11, 12, 13, 14, 15] rfl (by decide) rfl rfl rfl rfl rfl rfl hl.1 (Nat.le_of_ble_eq_true rfl) dX5_begin_90 ⟨Nat.zero_le _, Nat.zero_le _⟩ (fun H locs hP hD hS => ?_)
            cases hM
            exact rt_v hx hb hr hlk hP hD hS rfl dX5_begin_93
        · replace hM := if_t c41 hM
          refine lv_aload_n hx hb dX5_begin_68 rfl (lv_at hl 2 rfl) ?_
          refine lv_iload_n hx hb dX5_begin_69 rfl (lv_at hl 0 rfl) ?_
          obtain ⟨r48, hcr48, hM⟩ := ob_use hM
          refine cl_V (As := [.int r2]) (rest := []) (w_Writer_this_tree_names_out cI ad o_tree o_names r48) [] ⟨hx, hb, hml, hown, hts⟩ (c_Writer_number l D cI sd ad o_names r4 r2 r48 hcr48) (cwV2 hts q941 mvX5_number rfl rfl ⟨(Nat.le_of_ble_eq_true rfl), (Nat.le_of_ble_eq_true rfl)⟩) hK hE hA hP hD hS 0 (T := TX5) (N := 3) (ci := 5) rfl rfl [0, 9, 10, 11, 12, 13, 14, 15] rfl (by decide) rfl rfl rfl rfl rfl rfl hl.1 (Nat.le_of_ble_eq_true rfl) dX5_begin_70 ⟨Nat.zero_le _, Nat.zero_le _⟩ (fun H locs hP hD hS => ?_)
          refine lv_iload_n hx hb dX5_begin_73 rfl (lv_at hl 1 rfl) ?_
          refine lv_bipush (v := 7) hx hb dX5_begin_74 (by decide) ?_
          refine lv_icmp_ne (tgt := 84) hx hb dX5_begin_76 (by decide) (fun c49 => ?_) (fun c49 => ?_)
          · replace hM := if_f c49 hM
            refine lv_aload_n hx hb dX5_begin_84 rfl (lv_at hl 2 rfl) ?_
            refine lv_iload_n hx hb dX5_begin_85 rfl (lv_at hl 1 rfl) ?_
            refine lv_iload_n hx hb dX5_begin_86 rfl (lv_at hl 0 rfl) ?_
            obtain ⟨r50, hcr50, hM⟩ := ob_use hM
            refine cl_S (As := [.int r1, .int r2]) (rest := [.ref (ad 23)]) (w_Writer_this_tree_names_out cI ad o_tree o_names r48) (.int r50 :: [.ref (ad 23)]) ⟨hx, hb, hml, hown, hts⟩ (c_Writer_nextToken l D cI sd ad r1 r2 r50 hcr50) (cwS2 hts q957 mvX5_nextToken rfl rfl ⟨(Nat.le_of_ble_eq_true rfl), (Nat.le_of_ble_eq_true rfl)⟩) hK hE hA hP hD hS [] rfl (by decide) rfl rfl rfl rfl rfl rfl hl.1 (Nat.le_of_ble_eq_true rfl) dX5_begin_87 ⟨Nat.zero_le _, Nat.zero_le _⟩ (fun H locs hP hD hS => ?_)
            obtain ⟨r51, hcr51, hM⟩ := ob_use hM
            refine cl_V (As := [.int r50]) (rest := []) (w_Writer_this_tree_names_out cI ad o_tree o_names r51) [] ⟨hx, hb, hml, hown, hts⟩ (c_Writer_token l D cI sd ad o_names r48 r50 r51 hcr51) (cwV2 hts q872 mvX5_token rfl rfl ⟨(Nat.le_of_ble_eq_true rfl), (Nat.le_of_ble_eq_true rfl)⟩) hK hE hA hP hD hS 0 (T := TX5) (N := 3) (ci := 5) rfl rfl [0, 9, 10, 11, 12, 13, 14, 15] rfl (by decide) rfl rfl rfl rfl rfl rfl hl.1 (Nat.le_of_ble_eq_true rfl) dX5_begin_90 ⟨Nat.zero_le _, Nat.zero_le _⟩ (fun H locs hP hD hS => ?_)
            cases hM
            exact rt_v hx hb hr hlk hP hD hS rfl dX5_begin_93
          · replace hM := if_t c49 hM
            refine lv_aload_n hx hb dX5_begin_79 rfl (lv_at hl 2 rfl) ?_
            refine lv_iload_n hx hb dX5_begin_80 rfl (lv_at hl 0 rfl) ?_
            obtain ⟨r52, hcr52, hM⟩ := ob_use hM
            refine cl_V (As := [.int r2]) (rest := []) (w_Writer_this_tree_names_out cI ad o_tree o_names r52) [] ⟨hx, hb, hml, hown, hts⟩ (c_Writer_place l D cI sd ad o_names r48 r2 r52 hcr52) (cwV2 hts q953 mvX5_place rfl rfl ⟨(Nat.le_of_ble_eq_true rfl), (Nat.le_of_ble_eq_true rfl)⟩) hK hE hA hP hD hS 0 (T := TX5) (N := 3) (ci := 5) rfl rfl [0, 9, 10, 11, 12, 13, 14, 15] rfl (by decide) rfl rfl rfl rfl rfl rfl hl.1 (Nat.le_of_ble_eq_true rfl) dX5_begin_81 ⟨Nat.zero_le _, Nat.zero_le _⟩ (fun H locs hP hD hS => ?_)
            refine lv_aload_n hx hb dX5_begin_84 rfl (lv_at hl 2 rfl) ?_
            refine lv_iload_n hx hb dX5_begin_85 rfl (lv_at hl 1 rfl) ?_
            refine lv_iload_n hx hb dX5_begin_86 rfl (lv_at hl 0 rfl) ?_
            obtain ⟨r53, hcr53, hM⟩ := ob_use hM
            refine cl_S (As := [.int r1, .int r2]) (rest := [.ref (ad 23)]) (w_Writer_this_tree_names_out cI ad o_tree o_names r52) (.int r53 :: [.ref (ad 23)]) ⟨hx, hb, hml, hown, hts⟩ (c_Writer_nextToken l D cI sd ad r1 r2 r53 hcr53) (cwS2 hts q957 mvX5_nextToken rfl rfl ⟨(Nat.le_of_ble_eq_true rfl), (Nat.le_of_ble_eq_true rfl)⟩) hK hE hA hP hD hS [] rfl (by decide) rfl rfl rfl rfl rfl rfl hl.1 (Nat.le_of_ble_eq_true rfl) dX5_begin_87 ⟨Nat.zero_le _, Nat.zero_le _⟩ (fun H locs hP hD hS => ?_)
            obtain ⟨r54, hcr54, hM⟩ := ob_use hM
            refine cl_V (As := [.int r53]) (rest := []) (w_Writer_this_tree_names_out cI ad o_tree o_names r54) [] ⟨hx, hb, hml, hown, hts⟩ (c_Writer_token l D cI sd ad o_names r52 r53 r54 hcr54) (cwV2 hts q872 mvX5_token rfl rfl ⟨(Nat.le_of_ble_eq_true rfl), (Nat.le_of_ble_eq_true rfl)⟩) hK hE hA hP hD hS 0 (T := TX5) (N := 3) (ci := 5) rfl rfl [0, 9, 10, 11, 12, 13, 14, 15] rfl (by decide) rfl rfl rfl rfl rfl rfl hl.1 (Nat.le_of_ble_eq_true rfl) dX5_begin_90 ⟨Nat.zero_le _, Nat.zero_le _⟩ (fun H locs hP hD hS => ?_)
            cases hM
            exact rt_v hx hb hr hlk hP hD hS rfl dX5_begin_93
      · replace hM := if_f c40 hM
        refine lv_aload_n hx hb dX5_begin_54 rfl (lv_at hl 2 rfl) ?_
        refine lv_bipush (v := 41) hx hb dX5_begin_55 (by decide) ?_
        refine lv_iload_n hx hb dX5_begin_57 rfl (lv_at hl 0 rfl) ?_
        refine lv_iadd hx hb dX5_begin_58 ?_
        obtain ⟨r55, hcr55, hM⟩ := ob_use hM
        refine cl_V (As := [.int (41 + r2)]) (rest := []) (w_Writer_this_tree_names_out cI ad o_tree o_names r55) [] ⟨hx, hb, hml, hown, hts⟩ (c_Writer_word l D cI sd ad o_names r4 (41 + r2) r55 hcr55) (cwV2 hts q876 mvX5_word rfl rfl ⟨(Nat.le_of_ble_eq_true rfl), (Nat.le_of_ble_eq_true rfl)⟩) hK hE hA hP hD hS 0 (T := TX5) (N := 3) (ci := 5) rfl rfl [0, 9, 10, 11, 12, 13, 14, 15] rfl (by decide) rfl rfl rfl rfl rfl rfl hl.1 (Nat.le_of_ble_eq_true rfl) dX5_begin_59 ⟨Nat.zero_le _, Nat.zero_le _⟩ (fun H locs hP hD hS => ?_)
        refine lv_iload_n hx hb dX5_begin_62 rfl (lv_at hl 1 rfl) ?_
        refine lv_bipush (v := 30) hx hb dX5_begin_63 (by decide) ?_
        refine lv_icmp_ne (tgt := 73) hx hb dX5_begin_65 (by decide) (fun c56 => ?_) (fun c56 => ?_)
        · replace hM := if_f c56 hM
          refine lv_iload_n hx hb dX5_begin_73 rfl (lv_at hl 1 rfl) ?_
          refine lv_bipush (v := 7) hx hb dX5_begin_74 (by decide) ?_
          refine lv_icmp_ne (tgt := 84) hx hb dX5_begin_76 (by decide) (fun c57 => ?_) (fun c57 => ?_)
          · replace hM := if_f c57 hM
            refine lv_aload_n hx hb dX5_begin_84 rfl (lv_at hl 2 rfl) ?_
            refine lv_iload_n hx hb dX5_begin_85 rfl (lv_at hl 1 rfl) ?_
            refine lv_iload_n hx hb dX5_begin_86 rfl (lv_at hl 0 rfl) ?_
            obtain ⟨r58, hcr58, hM⟩ := ob_use hM
            refine cl_S (As := [.int r1, .int r2]) (rest := [.ref (ad 23)]) (w_Writer_this_tree_names_out cI ad o_tree o_names r55) (.int r58 :: [.ref (ad 23)]) ⟨hx, hb, hml, hown, hts⟩ (c_Writer_nextToken l D cI sd ad r1 r2 r58 hcr58) (cwS2 hts q957 mvX5_nextToken rfl rfl ⟨(Nat.le_of_ble_eq_true rfl), (Nat.le_of_ble_eq_true rfl)⟩) hK hE hA hP hD hS [] rfl (by decide) rfl rfl rfl rfl rfl rfl hl.1 (Nat.le_of_ble_eq_true rfl) dX5_begin_87 ⟨Nat.zero_le _, Nat.zero_le _⟩ (fun H locs hP hD hS => ?_)
            obtain ⟨r59, hcr59, hM⟩ := ob_use hM
            refine cl_V (As := [.int r58]) (rest := []) (w_Writer_this_tree_names_out cI ad o_tree o_names r59) [] ⟨hx, hb, hml, hown, hts⟩ (c_Writer_token l D cI sd ad o_names r55 r58 r59 hcr59) (cwV2 hts q872 mvX5_token rfl rfl ⟨(Nat.le_of_ble_eq_true rfl), (Nat.le_of_ble_eq_true rfl)⟩) hK hE hA hP hD hS 0 (T := TX5) (N := 3) (ci := 5) rfl rfl [0, 9, 10, 11, 12, 13, 14, 15] rfl (by decide) rfl rfl rfl rfl rfl rfl hl.1 (Nat.le_of_ble_eq_true rfl) dX5_begin_90 ⟨Nat.zero_le _, Nat.zero_le _⟩ (fun H locs hP hD hS => ?_)
            cases hM
            exact rt_v hx hb hr hlk hP hD hS rfl dX5_begin_93
          · replace hM := if_t c57 hM
            refine lv_aload_n hx hb dX5_begin_79 rfl (lv_at hl 2 rfl) ?_
            refine lv_iload_n hx hb dX5_begin_80 rfl (lv_at hl 0 rfl) ?_
            obtain ⟨r60, hcr60, hM⟩ := ob_use hM
            refine cl_V (As := [.int r2]) (rest := []) (w_Writer_this_tree_names_out cI ad o_tree o_names r60) [] ⟨hx, hb, hml, hown, hts⟩ (c_Writer_place l D cI sd ad o_names r55 r2 r60 hcr60) (cwV2 hts q953 mvX5_place rfl rfl ⟨(Nat.le_of_ble_eq_true rfl), (Nat.le_of_ble_eq_true rfl)⟩) hK hE hA hP hD hS 0 (T := TX5) (N := 3) (ci := 5) rfl rfl [0, 9, 10, 11, 12, 13, 14, 15] rfl (by decide) rfl rfl rfl rfl rfl rfl hl.1 (Nat.le_of_ble_eq_true rfl) dX5_begin_81 ⟨Nat.zero_le _, Nat.zero_le _⟩ (fun H locs hP hD hS => ?_)
            refine lv_aload_n hx hb dX5_begin_84 rfl (lv_at hl 2 rfl) ?_
            refine lv_iload_n hx hb dX5_begin_85 rfl (lv_at hl 1 rfl) ?_
            refine lv_iload_n hx hb dX5_begin_86 rfl (lv_at hl 0 rfl) ?_
            obtain ⟨r61, hcr61, hM⟩ := ob_use hM
            refine cl_S (As := [.int r1, .int r2]) (rest := [.ref (ad 23)]) (w_Writer_this_tree_names_out cI ad o_tree o_names r60) (.int r61 :: [.ref (ad 23)]) ⟨hx, hb, hml, hown, hts⟩ (c_Writer_nextToken l D cI sd ad r1 r2 r61 hcr61) (cwS2 hts q957 mvX5_nextToken rfl rfl ⟨(Nat.le_of_ble_eq_true rfl), (Nat.le_of_ble_eq_true rfl)⟩) hK hE hA hP hD hS [] rfl (by decide) rfl rfl rfl rfl rfl rfl hl.1 (Nat.le_of_ble_eq_true rfl) dX5_begin_87 ⟨Nat.zero_le _, Nat.zero_le _⟩ (fun H locs hP hD hS => ?_)
            obtain ⟨r62, hcr62, hM⟩ := ob_use hM
            refine cl_V (As := [.int r61]) (rest := []) (w_Writer_this_tree_names_out cI ad o_tree o_names r62) [] ⟨hx, hb, hml, hown, hts⟩ (c_Writer_token l D cI sd ad o_names r60 r61 r62 hcr62) (cwV2 hts q872 mvX5_token rfl rfl ⟨(Nat.le_of_ble_eq_true rfl), (Nat.le_of_ble_eq_true rfl)⟩) hK hE hA hP hD hS 0 (T := TX5) (N := 3) (ci := 5) rfl rfl [0, 9, 10, 11, 12, 13, 14, 15] rfl (by decide) rfl rfl rfl rfl rfl rfl hl.1 (Nat.le_of_ble_eq_true rfl) dX5_begin_90 ⟨Nat.zero_le _, Nat.zero_le _⟩ (fun H locs hP hD hS => ?_)
            cases hM
            exact rt_v hx hb hr hlk hP hD hS rfl dX5_begin_93
        · replace hM := if_t c56 hM
          refine lv_aload_n hx hb dX5_begin_68 rfl (lv_at hl 2 rfl) ?_
          refine lv_iload_n hx hb dX5_begin_69 rfl (lv_at hl 0 rfl) ?_
          obtain ⟨r63, hcr63, hM⟩ := ob_use hM
          refine cl_V (As := [.int r2]) (rest := []) (w_Writer_this_tree_names_out cI ad o_tree o_names r63) [] ⟨hx, hb, hml, hown, hts⟩ (c_Writer_number l D cI sd ad o_names r55 r2 r63 hcr63) (cwV2 hts q941 mvX5_number rfl rfl ⟨(Nat.le_of_ble_eq_true rfl), (Nat.le_of_ble_eq_true rfl)⟩) hK hE hA hP hD hS 0 (T := TX5) (N := 3) (ci := 5) rfl rfl [0, 9, 10, 11, 12, 13, 14, 15] rfl (by decide) rfl rfl rfl rfl rfl rfl hl.1 (Nat.le_of_ble_eq_true rfl) dX5_begin_70 ⟨Nat.zero_le _, Nat.zero_le _⟩ (fun H locs hP hD hS => ?_)
          refine lv_iload_n hx hb dX5_begin_73 rfl (lv_at hl 1 rfl) ?_
          refine lv_bipush (v := 7) hx hb dX5_begin_74 (by decide) ?_
          refine lv_icmp_ne (tgt := 84) hx hb dX5_begin_76 (by decide) (fun c64 => ?_) (fun c64 => ?_)
          · replace hM := if_f c64 hM
            refine lv_aload_n hx hb dX5_begin_84 rfl (lv_at hl 2 rfl) ?_
            refine lv_iload_n hx hb dX5_begin_85 rfl (lv_at hl 1 rfl) ?_
            refine lv_iload_n hx hb dX5_begin_86 rfl (lv_at hl 0 rfl) ?_
            obtain ⟨r65, hcr65, hM⟩ := ob_use hM
            refine cl_S (As := [.int r1, .int r2]) (rest := [.ref (ad 23)]) (w_Writer_this_tree_names_out cI ad o_tree o_names r63) (.int r65 :: [.ref (ad 23)]) ⟨hx, hb, hml, hown, hts⟩ (c_Writer_nextToken l D cI sd ad r1 r2 r65 hcr65) (cwS2 hts q957 mvX5_nextToken rfl rfl ⟨(Nat.le_of_ble_eq_true rfl), (Nat.le_of_ble_eq_true rfl)⟩) hK hE hA hP hD hS [] rfl (by decide) rfl rfl rfl rfl rfl rfl hl.1 (Nat.le_of_ble_eq_true rfl) dX5_begin_87 ⟨Nat.zero_le _, Nat.zero_le _⟩ (fun H locs hP hD hS => ?_)
            obtain ⟨r66, hcr66, hM⟩ := ob_use hM
            refine cl_V (As := [.int r65]) (rest := []) (w_Writer_this_tree_names_out cI ad o_tree o_names r66) [] ⟨hx, hb, hml, hown, hts⟩ (c_Writer_token l D cI sd ad o_names r63 r65 r66 hcr66) (cwV2 hts q872 mvX5_token rfl rfl ⟨(Nat.le_of_ble_eq_true rfl), (Nat.le_of_ble_eq_true rfl)⟩) hK hE hA hP hD hS 0 (T := TX5) (N := 3) (ci := 5) rfl rfl [0, 9, 10, 11, 12, 13, 14, 15] rfl (by decide) rfl rfl rfl rfl rfl rfl hl.1 (Nat.le_of_ble_eq_true rfl) dX5_begin_90 ⟨Nat.zero_le _, Nat.zero_le _⟩ (fun H locs hP hD hS => ?_)
            cases hM
            exact rt_v hx hb hr hlk hP hD hS rfl dX5_begin_93
          · replace hM := if_t c64 hM
            refine lv_aload_n hx hb dX5_begin_79 rfl (lv_at hl 2 rfl) ?_
            refine lv_iload_n hx hb dX5_begin_80 rfl (lv_at hl 0 rfl) ?_
            obtain ⟨r67, hcr67, hM⟩ := ob_use hM
            refine cl_V (As := [.int r2]) (rest := []) (w_Writer_this_tree_names_out cI ad o_tree o_names r67) [] ⟨hx, hb, hml, hown, hts⟩ (c_Writer_place l D cI sd ad o_names r63 r2 r67 hcr67) (cwV2 hts q953 mvX5_place rfl rfl ⟨(Nat.le_of_ble_eq_true rfl), (Nat.le_of_ble_eq_true rfl)⟩) hK hE hA hP hD hS 0 (T := TX5) (N := 3) (ci := 5) rfl rfl [0, 9, 10, 11, 12, 13, 14, 15] rfl (by decide) rfl rfl rfl rfl rfl rfl hl.1 (Nat.le_of_ble_eq_true rfl) dX5_begin_81 ⟨Nat.zero_le _, Nat.zero_le _⟩ (fun H locs hP hD hS => ?_)
            refine lv_aload_n hx hb dX5_begin_84 rfl (lv_at hl 2 rfl) ?_
            refine lv_iload_n hx hb dX5_begin_85 rfl (lv_at hl 1 rfl) ?_
            refine lv_iload_n hx hb dX5_begin_86 rfl (lv_at hl 0 rfl) ?_
            obtain ⟨r68, hcr68, hM⟩ := ob_use hM
            refine cl_S (As := [.int r1, .int r2]) (rest := [.ref (ad 23)]) (w_Writer_this_tree_names_out cI ad o_tree o_names r67) (.int r68 :: [.ref (ad 23)]) ⟨hx, hb, hml, hown, hts⟩ (c_Writer_nextToken l D cI sd ad r1 r2 r68 hcr68) (cwS2 hts q957 mvX5_nextToken rfl rfl ⟨(Nat.le_of_ble_eq_true rfl), (Nat.le_of_ble_eq_true rfl)⟩) hK hE hA hP hD hS [] rfl (by decide) rfl rfl rfl rfl rfl rfl hl.1 (Nat.le_of_ble_eq_true rfl) dX5_begin_87 ⟨Nat.zero_le _, Nat.zero_le _⟩ (fun H locs hP hD hS => ?_)
            obtain ⟨r69, hcr69, hM⟩ := ob_use hM
            refine cl_V (As := [.int r68]) (rest := []) (w_Writer_this_tree_names_out cI ad o_tree o_names r69) [] ⟨hx, hb, hml, hown, hts⟩ (c_Writer_token l D cI sd ad o_names r67 r68 r69 hcr69) (cwV2 hts q872 mvX5_token rfl rfl ⟨(Nat.le_of_ble_eq_true rfl), (Nat.le_of_ble_eq_true rfl)⟩) hK hE hA hP hD hS 0 (T := TX5) (N := 3) (ci := 5) rfl rfl [0, 9, 10, 11, 12, 13, 14, 15] rfl (by decide) rfl rfl rfl rfl rfl rfl hl.1 (Nat.le_of_ble_eq_true rfl) dX5_begin_90 ⟨Nat.zero_le _, Nat.zero_le _⟩ (fun H locs hP hD hS => ?_)
            cases hM
            exact rt_v hx hb hr hlk hP hD hS rfl dX5_begin_93
    · replace hM := if_f c38 hM
      refine lv_aload_n hx hb dX5_begin_41 rfl (lv_at hl 2 rfl) ?_
      refine lv_bipush (v := 40) hx hb dX5_begin_42 (by decide) ?_
      obtain ⟨r70, hcr70, hM⟩ := ob_use hM
      refine cl_V (As := [.int 40]) (rest := []) (w_Writer_this_tree_names_out cI ad o_tree o_names r70) [] ⟨hx, hb, hml, hown, hts⟩ (c_Writer_token l D cI sd ad o_names r4 40 r70 hcr70) (cwV2 hts q872 mvX5_token rfl rfl ⟨(Nat.le_of_ble_eq_true rfl), (Nat.le_of_ble_eq_true rfl)⟩) hK hE hA hP hD hS 0 (T := TX5) (N := 3) (ci := 5) rfl rfl [0, 9, 10, 11, 12, 13, 14, 15] rfl (by decide) rfl rfl rfl rfl rfl rfl hl.1 (Nat.le_of_ble_eq_true rfl) dX5_begin_44 ⟨Nat.zero_le _, Nat.zero_le _⟩ (fun H locs hP hD hS => ?_)
      refine lv_iload_n hx hb dX5_begin_47 rfl (lv_at hl 1 rfl) ?_
      obtain ⟨r71, hcr71, hM⟩ := ob_use hM
      refine cl_S (As := [.int r1]) (rest := []) (w_Writer_this_tree_names_out cI ad o_tree o_names r70) (.int r71 :: []) ⟨hx, hb, hml, hown, hts⟩ (c_Writer_bearsName l D cI sd ad r1 r71 hcr71) (cwS2 hts q938 mvX5_bearsName rfl rfl ⟨(Nat.le_of_ble_eq_true rfl), (Nat.le_of_ble_eq_true rfl)⟩) hK hE hA hP hD hS [] rfl (by decide) rfl rfl rfl rfl rfl rfl hl.1 (Nat.le_of_ble_eq_true rfl) dX5_begin_48 ⟨Nat.zero_le _, Nat.zero_le _⟩ (fun H locs hP hD hS => ?_)
      refine lv_if_eq (tgt := 62) hx hb dX5_begin_51 (by decide) (fun c72 => ?_) (fun c72 => ?_)
      · replace hM := if_t c72 hM
        refine lv_iload_n hx hb dX5_begin_62 rfl (lv_at hl 1 rfl) ?_
        refine lv_bipush (v := 30) hx hb dX5_begin_63 (by decide) ?_
        refine lv_icmp_ne (tgt := 73) hx hb dX5_begin_65 (by decide) (fun c73 => ?_) (fun c73 => ?_)
        · replace hM := if_f c73 hM
          refine lv_iload_n hx hb dX5_begin_73 rfl (lv_at hl 1 rfl) ?_
          refine lv_bipush (v := 7) hx hb dX5_begin_74 (by decide) ?_
          refine lv_icmp_ne (tgt := 84) hx hb dX5_begin_76 (by decide) (fun c74 => ?_) (fun c74 => ?_)
          · replace hM := if_f c74 hM
            refine lv_aload_n hx hb dX5_begin_84 rfl (lv_at hl 2 rfl) ?_
            refine lv_iload_n hx hb dX5_begin_85 rfl (lv_at hl 1 rfl) ?_
            refine lv_iload_n hx hb dX5_begin_86 rfl (lv_at hl 0 rfl) ?_
            obtain ⟨r75, hcr75, hM⟩ := ob_use hM
            refine cl_S (As := [.int r1, .int r2]) (rest := [.ref (ad 23)]) (w_Writer_this_tree_names_out cI ad o_tree o_names r70) (.int r75 :: [.ref (ad 23)]) ⟨hx, hb, hml, hown, hts⟩ (c_Writer_nextToken l D cI sd ad r1 r2 r75 hcr75) (cwS2 hts q957 mvX5_nextToken rfl rfl ⟨(Nat.le_of_ble_eq_true rfl), (Nat.le_of_ble_eq_true rfl)⟩) hK hE hA hP hD hS [] rfl (by decide) rfl rfl rfl rfl rfl rfl hl.1 (Nat.le_of_ble_eq_true rfl) dX5_begin_87 ⟨Nat.zero_le _, Nat.zero_le _⟩ (fun H locs hP hD hS => ?_)
            obtain ⟨r76, hcr76, hM⟩ := ob_use hM
            refine cl_V (As := [.int r75]) (rest := []) (w_Writer_this_tree_names_out cI ad o_tree o_names r76) [] ⟨hx, hb, hml, hown, hts⟩ (c_Writer_token l D cI sd ad o_names r70 r75 r76 hcr76) (cwV2 hts q872 mvX5_token rfl rfl ⟨(Nat.le_of_ble_eq_true rfl), (Nat.le_of_ble_eq_true rfl)⟩) hK hE hA hP hD hS 0 (T := TX5) (N := 3) (ci := 5) rfl rfl [0, 9, 10, 11, 12, 13, 14, 15] rfl (by decide) rfl rfl rfl rfl rfl rfl hl.1 (Nat.le_of_ble_eq_true rfl) dX5_begin_90 ⟨Nat.zero_le _, Nat.zero_le _⟩ (fun H locs hP hD hS => ?_)
            cases hM
            exact rt_v hx hb hr hlk hP hD hS rfl dX5_begin_93
          · replace hM := if_t c74 hM
            refine lv_aload_n hx hb dX5_begin_79 rfl (lv_at hl 2 rfl) ?_
            refine lv_iload_n hx hb dX5_begin_80 rfl (lv_at hl 0 rfl) ?_
            obtain ⟨r77, hcr77, hM⟩ := ob_use hM
            refine cl_V (As := [.int r2]) (rest := []) (w_Writer_this_tree_names_out cI ad o_tree o_names r77) [] ⟨hx, hb, hml, hown, hts⟩ (c_Writer_place l D cI sd ad o_names r70 r2 r77 hcr77) (cwV2 hts q953 mvX5_place rfl rfl ⟨(Nat.le_of_ble_eq_true rfl), (Nat.le_of_ble_eq_true rfl)⟩) hK hE hA hP hD hS 0 (T := TX5) (N := 3) (ci := 5) rfl rfl [0, 9, 10, 11, 12, 13, 14, 15] rfl (by decide) rfl rfl rfl rfl rfl rfl hl.1 (Nat.le_of_ble_eq_true rfl) dX5_begin_81 ⟨Nat.zero_le _, Nat.zero_le _⟩ (fun H locs hP hD hS => ?_)
            refine lv_aload_n hx hb dX5_begin_84 rfl (lv_at hl 2 rfl) ?_
            refine lv_iload_n hx hb dX5_begin_85 rfl (lv_at hl 1 rfl) ?_
            refine lv_iload_n hx hb dX5_begin_86 rfl (lv_at hl 0 rfl) ?_
            obtain ⟨r78, hcr78, hM⟩ := ob_use hM
            refine cl_S (As := [.int r1, .int r2]) (rest := [.ref (ad 23)]) (w_Writer_this_tree_names_out cI ad o_tree o_names r77) (.int r78 :: [.ref (ad 23)]) ⟨hx, hb, hml, hown, hts⟩ (c_Writer_nextToken l D cI sd ad r1 r2 r78 hcr78) (cwS2 hts q957 mvX5_nextToken rfl rfl ⟨(Nat.le_of_ble_eq_true rfl), (Nat.le_of_ble_eq_true rfl)⟩) hK hE hA hP hD hS [] rfl (by decide) rfl rfl rfl rfl rfl rfl hl.1 (Nat.le_of_ble_eq_true rfl) dX5_begin_87 ⟨Nat.zero_le _, Nat.zero_le _⟩ (fun H locs hP hD hS => ?_)
            obtain ⟨r79, hcr79, hM⟩ := ob_use hM
            refine cl_V (As := [.int r78]) (rest := []) (w_Writer_this_tree_names_out cI ad o_tree o_names r79) [] ⟨hx, hb, hml, hown, hts⟩ (c_Writer_token l D cI sd ad o_names r77 r78 r79 hcr79) (cwV2 hts q872 mvX5_token rfl rfl ⟨(Nat.le_of_ble_eq_true rfl), (Nat.le_of_ble_eq_true rfl)⟩) hK hE hA hP hD hS 0 (T := TX5) (N := 3) (ci := 5) rfl rfl [0, 9, 10, 11, 12, 13, 14, 15] rfl (by decide) rfl rfl rfl rfl rfl rfl hl.1 (Nat.le_of_ble_eq_true rfl) dX5_begin_90 ⟨Nat.zero_le _, Nat.zero_le _⟩ (fun H locs hP hD hS => ?_)
            cases hM
            exact rt_v hx hb hr hlk hP hD hS rfl dX5_begin_93
        · replace hM := if_t c73 hM
          refine lv_aload_n hx hb dX5_begin_68 rfl (lv_at hl 2 rfl) ?_
          refine lv_iload_n hx hb dX5_begin_69 rfl (lv_at hl 0 rfl) ?_
          obtain ⟨r80, hcr80, hM⟩ := ob_use hM
          refine cl_V (As := [.int r2]) (rest := []) (w_Writer_this_tree_names_out cI ad o_tree o_names r80) [] ⟨hx, hb, hml, hown, hts⟩ (c_Writer_number l D cI sd ad o_names r70 r2 r80 hcr80) (cwV2 hts q941 mvX5_number rfl rfl ⟨(Nat.le_of_ble_eq_true rfl), (Nat.le_of_ble_eq_true rfl)⟩) hK hE hA hP hD hS 0 (T := TX5) (N := 3) (ci := 5) rfl rfl [0, 9, 10, 11, 12, 13, 14, 15] rfl (by decide) rfl rfl rfl rfl rfl rfl hl.1 (Nat.le_of_ble_eq_true rfl) dX5_begin_70 ⟨Nat.zero_le _, Nat.zero_le _⟩ (fun H locs hP hD hS => ?_)
          refine lv_iload_n hx hb dX5_begin_73 rfl (lv_at hl 1 rfl) ?_
          refine lv_bipush (v := 7) hx hb dX5_begin_74 (by decide) ?_
          refine lv_icmp_ne (tgt := 84) hx hb dX5_begin_76 (by decide) (fun c81 => ?_) (fun c81 => ?_)
          · replace hM := if_f c81 hM
            refine lv_aload_n hx hb dX5_begin_84 rfl (lv_at hl 2 rfl) ?_
            refine lv_iload_n hx hb dX5_begin_85 rfl (lv_at hl 1 rfl) ?_
            refine lv_iload_n hx hb dX5_begin_86 rfl (lv_at hl 0 rfl) ?_
            obtain ⟨r82, hcr82, hM⟩ := ob_use hM
            refine cl_S (As := [.int r1, .int r2]) (rest := [.ref (ad 23)]) (w_Writer_this_tree_names_out cI ad o_tree o_names r80) (.int r82 :: [.ref (ad 23)]) ⟨hx, hb, hml, hown, hts⟩ (c_Writer_nextToken l D cI sd ad r1 r2 r82 hcr82) (cwS2 hts q957 mvX5_nextToken rfl rfl ⟨(Nat.le_of_ble_eq_true rfl), (Nat.le_of_ble_eq_true rfl)⟩) hK hE hA hP hD hS [] rfl (by decide) rfl rfl rfl rfl rfl rfl hl.1 (Nat.le_of_ble_eq_true rfl) dX5_begin_87 ⟨Nat.zero_le _, Nat.zero_le _⟩ (fun H locs hP hD hS => ?_)
            obtain ⟨r83, hcr83, hM⟩ := ob_use hM
            refine cl_V (As := [.int r82]) (rest := []) (w_Writer_this_tree_names_out cI ad o_tree o_names r83) [] ⟨hx, hb, hml, hown, hts⟩ (c_Writer_token l D cI sd ad o_names r80 r82 r83 hcr83) (cwV2 hts q872 mvX5_token rfl rfl ⟨(Nat.le_of_ble_eq_true rfl), (Nat.le_of_ble_eq_true rfl)⟩) hK hE hA hP hD hS 0 (T := TX5) (N := 3) (ci := 5) rfl rfl [0, 9, 10, 11, 12, 13, 14, 15] rfl (by decide) rfl rfl rfl rfl rfl rfl hl.1 (Nat.le_of_ble_eq_true rfl) dX5_begin_90 ⟨Nat.zero_le _, Nat.zero_le _⟩ (fun H locs hP hD hS => ?_)
            cases hM
            exact rt_v hx hb hr hlk hP hD hS rfl dX5_begin_93
          · replace hM := if_t c81 hM
            refine lv_aload_n hx hb dX5_begin_79 rfl (lv_at hl 2 rfl) ?_
            refine lv_iload_n hx hb dX5_begin_80 rfl (lv_at hl 0 rfl) ?_
            obtain ⟨r84, hcr84, hM⟩ := ob_use hM
            refine cl_V (As := [.int r2]) (rest := []) (w_Writer_this_tree_names_out cI ad o_tree o_names r84) [] ⟨hx, hb, hml, hown, hts⟩ (c_Writer_place l D cI sd ad o_names r80 r2 r84 hcr84) (cwV2 hts q953 mvX5_place rfl rfl ⟨(Nat.le_of_ble_eq_true rfl), (Nat.le_of_ble_eq_true rfl)⟩) hK hE hA hP hD hS 0 (T := TX5) (N := 3) (ci := 5) rfl rfl [0, 9, 10, 11, 12, 13, 14, 15] rfl (by decide) rfl rfl rfl rfl rfl rfl hl.1 (Nat.le_of_ble_eq_true rfl) dX5_begin_81 ⟨Nat.zero_le _, Nat.zero_le _⟩ (fun H locs hP hD hS => ?_)
            refine lv_aload_n hx hb dX5_begin_84 rfl (lv_at hl 2 rfl) ?_
            refine lv_iload_n hx hb dX5_begin_85 rfl (lv_at hl 1 rfl) ?_
            refine lv_iload_n hx hb dX5_begin_86 rfl (lv_at hl 0 rfl) ?_
            obtain ⟨r85, hcr85, hM⟩ := ob_use hM
            refine cl_S (As := [.int r1, .int r2]) (rest := [.ref (ad 23)]) (w_Writer_this_tree_names_out cI ad o_tree o_names r84) (.int r85 :: [.ref (ad 23)]) ⟨hx, hb, hml, hown, hts⟩ (c_Writer_nextToken l D cI sd ad r1 r2 r85 hcr85) (cwS2 hts q957 mvX5_nextToken rfl rfl ⟨(Nat.le_of_ble_eq_true rfl), (Nat.le_of_ble_eq_true rfl)⟩) hK hE hA hP hD hS [] rfl (by decide) rfl rfl rfl rfl rfl rfl hl.1 (Nat.le_of_ble_eq_true rfl) dX5_begin_87 ⟨Nat.zero_le _, Nat.zero_le _⟩ (fun H locs hP hD hS => ?_)
            obtain ⟨r86, hcr86, hM⟩ := ob_use hM
            refine cl_V (As := [.int r85]) (rest := []) (w_Writer_this_tree_names_out cI ad o_tree o_names r86) [] ⟨hx, hb, hml, hown, hts⟩ (c_Writer_token l D cI sd ad o_names r84 r85 r86 hcr86) (cwV2 hts q872 mvX5_token rfl rfl ⟨(Nat.le_of_ble_eq_true rfl), (Nat.le_of_ble_eq_true rfl)⟩) hK hE hA hP hD hS 0 (T := TX5) (N := 3) (ci := 5) rfl rfl [0, 9, 10, 11, 12, 13, 14, 15] rfl (by decide) rfl rfl rfl rfl rfl rfl hl.1 (Nat.le_of_ble_eq_true rfl) dX5_begin_90 ⟨Nat.zero_le _, Nat.zero_le _⟩ (fun H locs hP hD hS => ?_)
            cases hM
            exact rt_v hx hb hr hlk hP hD hS rfl dX5_begin_93
      · replace hM := if_f c72 hM
        refine lv_aload_n hx hb dX5_begin_54 rfl (lv_at hl 2 rfl) ?_
        refine lv_bipush (v := 41) hx hb dX5_begin_55 (by decide) ?_
        refine lv_iload_n hx hb dX5_begin_57 rfl (lv_at hl 0 rfl) ?_
        refine lv_iadd hx hb dX5_begin_58 ?_
        obtain ⟨r87, hcr87, hM⟩ := ob_use hM
        refine cl_V (As := [.int (41 + r2)]) (rest := []) (w_Writer_this_tree_names_out cI ad o_tree o_names r87) [] ⟨hx, hb, hml, hown, hts⟩ (c_Writer_word l D cI sd ad o_names r70 (41 + r2) r87 hcr87) (cwV2 hts q876 mvX5_word rfl rfl ⟨(Nat.le_of_ble_eq_true rfl), (Nat.le_of_ble_eq_true rfl)⟩) hK hE hA hP hD hS 0 (T := TX5) (N := 3) (ci := 5) rfl rfl [0, 9, 10, 11, 12, 13, 14, 15] rfl (by decide) rfl rfl rfl rfl rfl rfl hl.1 (Nat.le_of_ble_eq_true rfl) dX5_begin_59 ⟨Nat.zero_le _, Nat.zero_le _⟩ (fun H locs hP hD hS => ?_)
        refine lv_iload_n hx hb dX5_begin_62 rfl (lv_at hl 1 rfl) ?_
        refine lv_bipush (v := 30) hx hb dX5_begin_63 (by decide) ?_
        refine lv_icmp_ne (tgt := 73) hx hb dX5_begin_65 (by decide) (fun c88 => ?_) (fun c88 => ?_)
        · replace hM := if_f c88 hM
          refine lv_iload_n hx hb dX5_begin_73 rfl (lv_at hl 1 rfl) ?_
          refine lv_bipush (v := 7) hx hb dX5_begin_74 (by decide) ?_
          refine lv_icmp_ne (tgt := 84) hx hb dX5_begin_76 (by decide) (fun c89 => ?_) (fun c89 => ?_)
          · replace hM := if_f c89 hM
            refine lv_aload_n hx hb dX5_begin_84 rfl (lv_at hl 2 rfl) ?_
            refine lv_iload_n hx hb dX5_begin_85 rfl (lv_at hl 1 rfl) ?_
            refine lv_iload_n hx hb dX5_begin_86 rfl (lv_at hl 0 rfl) ?_
            obtain ⟨r90, hcr90, hM⟩ := ob_use hM
            refine cl_S (As := [.int r1, .int r2]) (rest := [.ref (ad 23)]) (w_Writer_this_tree_names_out cI ad o_tree o_names r87) (.int r90 :: [.ref (ad 23)]) ⟨hx, hb, hml, hown, hts⟩ (c_Writer_nextToken l D cI sd ad r1 r2 r90 hcr90) (cwS2 hts q957 mvX5_nextToken rfl rfl ⟨(Nat.le_of_ble_eq_true rfl), (Nat.le_of_ble_eq_true rfl)⟩) hK hE hA hP hD hS [] rfl (by decide) rfl rfl rfl rfl rfl rfl hl.1 (Nat.le_of_ble_eq_true rfl) dX5_begin_87 ⟨Nat.zero_le _, Nat.zero_le _⟩ (fun H locs hP hD hS => ?_)
            obtain ⟨r91, hcr91, hM⟩ := ob_use hM
            refine cl_V (As := [.int r90]) (rest := []) (w_Writer_this_tree_names_out cI ad o_tree o_names r91) [] ⟨hx, hb, hml, hown, hts⟩ (c_Writer_token l D cI sd ad o_names r87 r90 r91 hcr91) (cwV2 hts q872 mvX5_token rfl rfl ⟨(Nat.le_of_ble_eq_true rfl), (Nat.le_of_ble_eq_true rfl)⟩) hK hE hA hP hD hS 0 (T := TX5) (N := 3) (ci := 5) rfl rfl [0, 9, 10, 11, 12, 13, 14, 15] rfl (by decide) rfl rfl rfl rfl rfl rfl hl.1 (Nat.le_of_ble_eq_true rfl) dX5_begin_90 ⟨Nat.zero_le _, Nat.zero_le _⟩ (fun H locs hP hD hS => ?_)
            cases hM
            exact rt_v hx hb hr hlk hP hD hS rfl dX5_begin_93
          · replace hM := if_t c89 hM
            refine lv_aload_n hx hb dX5_begin_79 rfl (lv_at hl 2 rfl) ?_
            refine lv_iload_n hx hb dX5_begin_80 rfl (lv_at hl 0 rfl) ?_
            obtain ⟨r92, hcr92, hM⟩ := ob_use hM
            refine cl_V (As := [.int r2]) (rest := []) (w_Writer_this_tree_names_out cI ad o_tree o_names r92) [] ⟨hx, hb, hml, hown, hts⟩ (c_Writer_place l D cI sd ad o_names r87 r2 r92 hcr92) (cwV2 hts q953 mvX5_place rfl rfl ⟨(Nat.le_of_ble_eq_true rfl), (Nat.le_of_ble_eq_true rfl)⟩) hK hE hA hP hD hS 0 (T := TX5) (N := 3) (ci := 5) rfl rfl [0, 9, 10, 11, 12, 13, 14, 15] rfl (by decide) rfl rfl rfl rfl rfl rfl hl.1 (Nat.le_of_ble_eq_true rfl) dX5_begin_81 ⟨Nat.zero_le _, Nat.zero_le _⟩ (fun H locs hP hD hS => ?_)
            refine lv_aload_n hx hb dX5_begin_84 rfl (lv_at hl 2 rfl) ?_
            refine lv_iload_n hx hb dX5_begin_85 rfl (lv_at hl 1 rfl) ?_
            refine lv_iload_n hx hb dX5_begin_86 rfl (lv_at hl 0 rfl) ?_
            obtain ⟨r93, hcr93, hM⟩ := ob_use hM
            refine cl_S (As := [.int r1, .int r2]) (rest := [.ref (ad 23)]) (w_Writer_this_tree_names_out cI ad o_tree o_names r92) (.int r93 :: [.ref (ad 23)]) ⟨hx, hb, hml, hown, hts⟩ (c_Writer_nextToken l D cI sd ad r1 r2 r93 hcr93) (cwS2 hts q957 mvX5_nextToken rfl rfl ⟨(Nat.le_of_ble_eq_true rfl), (Nat.le_of_ble_eq_true rfl)⟩) hK hE hA hP hD hS [] rfl (by decide) rfl rfl rfl rfl rfl rfl hl.1 (Nat.le_of_ble_eq_true rfl) dX5_begin_87 ⟨Nat.zero_le _, Nat.zero_le _⟩ (fun H locs hP hD hS => ?_)
            obtain ⟨r94, hcr94, hM⟩ := ob_use hM
            refine cl_V (As := [.int r93]) (rest := []) (w_Writer_this_tree_names_out cI ad o_tree o_names r94) [] ⟨hx, hb, hml, hown, hts⟩ (c_Writer_token l D cI sd ad o_names r92 r93 r94 hcr94) (cwV2 hts q872 mvX5_token rfl rfl ⟨(Nat.le_of_ble_eq_true rfl), (Nat.le_of_ble_eq_true rfl)⟩) hK hE hA hP hD hS 0 (T := TX5) (N := 3) (ci := 5) rfl rfl [0, 9, 10, 11, 12, 13, 14, 15] rfl (by decide) rfl rfl rfl rfl rfl rfl hl.1 (Nat.le_of_ble_eq_true rfl) dX5_begin_90 ⟨Nat.zero_le _, Nat.zero_le _⟩ (fun H locs hP hD hS => ?_)
            cases hM
            exact rt_v hx hb hr hlk hP hD hS rfl dX5_begin_93
        · replace hM := if_t c88 hM
          refine lv_aload_n hx hb dX5_begin_68 rfl (lv_at hl 2 rfl) ?_
          refine lv_iload_n hx hb dX5_begin_69 rfl (lv_at hl 0 rfl) ?_
          obtain ⟨r95, hcr95, hM⟩ := ob_use hM
          refine cl_V (As := [.int r2]) (rest := []) (w_Writer_this_tree_names_out cI ad o_tree o_names r95) [] ⟨hx, hb, hml, hown, hts⟩ (c_Writer_number l D cI sd ad o_names r87 r2 r95 hcr95) (cwV2 hts q941 mvX5_number rfl rfl ⟨(Nat.le_of_ble_eq_true rfl), (Nat.le_of_ble_eq_true rfl)⟩) hK hE hA hP hD hS 0 (T := TX5) (N := 3) (ci := 5) rfl rfl [0, 9, 10, 11, 12, 13, 14, 15] rfl (by decide) rfl rfl rfl rfl rfl rfl hl.1 (Nat.le_of_ble_eq_true rfl) dX5_begin_70 ⟨Nat.zero_le _, Nat.zero_le _⟩ (fun H locs hP hD hS => ?_)
          refine lv_iload_n hx hb dX5_begin_73 rfl (lv_at hl 1 rfl) ?_
          refine lv_bipush (v := 7) hx hb dX5_begin_74 (by decide) ?_
          refine lv_icmp_ne (tgt := 84) hx hb dX5_begin_76 (by decide) (fun c96 => ?_) (fun c96 => ?_)
          · replace hM := if_f c96 hM
            refine lv_aload_n hx hb dX5_begin_84 rfl (lv_at hl 2 rfl) ?_
            refine lv_iload_n hx hb dX5_begin_85 rfl (lv_at hl 1 rfl) ?_
            refine lv_iload_n hx hb dX5_begin_86 rfl (lv_at hl 0 rfl) ?_
            obtain ⟨r97, hcr97, hM⟩ := ob_use hM
            refine cl_S (As := [.int r1, .int r2]) (rest := [.ref (ad 23)]) (w_Writer_this_tree_names_out cI ad o_tree o_names r95) (.int r97 :: [.ref (ad 23)]) ⟨hx, hb, hml, hown, hts⟩ (c_Writer_nextToken l D cI sd ad r1 r2 r97 hcr97) (cwS2 hts q957 mvX5_nextToken rfl rfl ⟨(Nat.le_of_ble_eq_true rfl), (Nat.le_of_ble_eq_true rfl)⟩) hK hE hA hP hD hS [] rfl (by decide) rfl rfl rfl rfl rfl rfl hl.1 (Nat.le_of_ble_eq_true rfl) dX5_begin_87 ⟨Nat.zero_le _, Nat.zero_le _⟩ (fun H locs hP hD hS => ?_)
            obtain ⟨r98, hcr98, hM⟩ := ob_use hM
            refine cl_V (As := [.int r97]) (rest := []) (w_Writer_this_tree_names_out cI ad o_tree o_names r98) [] ⟨hx, hb, hml, hown, hts⟩ (c_Writer_token l D cI sd ad o_names r95 r97 r98 hcr98) (cwV2 hts q872 mvX5_token rfl rfl ⟨(Nat.le_of_ble_eq_true rfl), (Nat.le_of_ble_eq_true rfl)⟩) hK hE hA hP hD hS 0 (T := TX5) (N := 3) (ci := 5) rfl rfl [0, 9, 10, 11, 12, 13, 14, 15] rfl (by decide) rfl rfl rfl rfl rfl rfl hl.1 (Nat.le_of_ble_eq_true rfl) dX5_begin_90 ⟨Nat.zero_le _, Nat.zero_le _⟩ (fun H locs hP hD hS => ?_)
            cases hM
            exact rt_v hx hb hr hlk hP hD hS rfl dX5_begin_93
          · replace hM := if_t c96 hM
            refine lv_aload_n hx hb dX5_begin_79 rfl (lv_at hl 2 rfl) ?_
            refine lv_iload_n hx hb dX5_begin_80 rfl (lv_at hl 0 rfl) ?_
            obtain ⟨r99, hcr99, hM⟩ := ob_use hM
            refine cl_V (As := [.int r2]) (rest := []) (w_Writer_this_tree_names_out cI ad o_tree o_names r99) [] ⟨hx, hb, hml, hown, hts⟩ (c_Writer_place l D cI sd ad o_names r95 r2 r99 hcr99) (cwV2 hts q953 mvX5_place rfl rfl ⟨(Nat.le_of_ble_eq_true rfl), (Nat.le_of_ble_eq_true rfl)⟩) hK hE hA hP hD hS 0 (T := TX5) (N := 3) (ci := 5) rfl rfl [0, 9, 10, 11, 12, 13, 14, 15] rfl (by decide) rfl rfl rfl rfl rfl rfl hl.1 (Nat.le_of_ble_eq_true rfl) dX5_begin_81 ⟨Nat.zero_le _, Nat.zero_le _⟩ (fun H locs hP hD hS => ?_)
            refine lv_aload_n hx hb dX5_begin_84 rfl (lv_at hl 2 rfl) ?_
            refine lv_iload_n hx hb dX5_begin_85 rfl (lv_at hl 1 rfl) ?_
            refine lv_iload_n hx hb dX5_begin_86 rfl (lv_at hl 0 rfl) ?_
            obtain ⟨r100, hcr100, hM⟩ := ob_use hM
            refine cl_S (As := [.int r1, .int r2]) (rest := [.ref (ad 23)]) (w_Writer_this_tree_names_out cI ad o_tree o_names r99) (.int r100 :: [.ref (ad 23)]) ⟨hx, hb, hml, hown, hts⟩ (c_Writer_nextToken l D cI sd ad r1 r2 r100 hcr100) (cwS2 hts q957 mvX5_nextToken rfl rfl ⟨(Nat.le_of_ble_eq_true rfl), (Nat.le_of_ble_eq_true rfl)⟩) hK hE hA hP hD hS [] rfl (by decide) rfl rfl rfl rfl rfl rfl hl.1 (Nat.le_of_ble_eq_true rfl) dX5_begin_87 ⟨Nat.zero_le _, Nat.zero_le _⟩ (fun H locs hP hD hS => ?_)
            obtain ⟨r101, hcr101, hM⟩ := ob_use hM
            refine cl_V (As := [.int r100]) (rest := []) (w_Writer_this_tree_names_out cI ad o_tree o_names r101) [] ⟨hx, hb, hml, hown, hts⟩ (c_Writer_token l D cI sd ad o_names r99 r100 r101 hcr101) (cwV2 hts q872 mvX5_token rfl rfl ⟨(Nat.le_of_ble_eq_true rfl), (Nat.le_of_ble_eq_true rfl)⟩) hK hE hA hP hD hS 0 (T := TX5) (N := 3) (ci := 5) rfl rfl [0, 9, 10, 11, 12, 13, 14, 15] rfl (by decide) rfl rfl rfl rfl rfl rfl hl.1 (Nat.le_of_ble_eq_true rfl) dX5_begin_90 ⟨Nat.zero_le _, Nat.zero_le _⟩ (fun H locs hP hD hS => ?_)
            cases hM
            exact rt_v hx hb hr hlk hP hD hS rfl dX5_begin_93
